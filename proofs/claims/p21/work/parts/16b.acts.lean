section mg16b
theorem gX3_doSees_X3_begin : GoodIn wsX3_doSees (va_wsS RX3 34 yX3_begin wsX3_begin) := goodIn_app (ggh_of [1026, 929, 67] rfl rfl rfl) ggX3_doSees_X3_begin
theorem ggX3_doGoes_X3_begin : GoodIn wsX3_doGoes wsX3_begin := gga_of 930 rfl rfl rfl
theorem gX3_doGoes_X3_begin : GoodIn wsX3_doGoes (va_wsS RX3 34 yX3_begin wsX3_begin) := goodIn_app (ggh_of [1026, 929, 67] rfl rfl rfl) ggX3_doGoes_X3_begin
theorem ggX3_doGoes_X3_doSees : GoodIn wsX3_doGoes wsX3_doSees := gga_of 1025 rfl rfl rfl
theorem gX3_doGoes_X3_doSees : GoodIn wsX3_doGoes (wsV RX3 38 RX3 yX3_doSees wsX3_doSees) := goodIn_app (ggh_of [1050, 920, 921, 67] rfl rfl rfl) ggX3_doGoes_X3_doSees
theorem ggX3_doLooks_X3_begin : GoodIn wsX3_doLooks wsX3_begin := gga_of 930 rfl rfl rfl
theorem gX3_doLooks_X3_begin : GoodIn wsX3_doLooks (va_wsS RX3 34 yX3_begin wsX3_begin) := goodIn_app (ggh_of [1026, 929, 67] rfl rfl rfl) ggX3_doLooks_X3_begin
theorem ggX3_doLooks_X3_doGoes : GoodIn wsX3_doLooks wsX3_doGoes := gga_of 1049 rfl rfl rfl
theorem gX3_doLooks_X3_doGoes : GoodIn wsX3_doLooks (wsV RX3 42 RX3 yX3_doGoes wsX3_doGoes) := goodIn_app (ggh_of [1078, 1028, 1029, 67] rfl rfl rfl) ggX3_doLooks_X3_doGoes
theorem gX4_doSees_X3_doSees_s21 : GoodIn wsX4_doSees (va_wsSU RX4 21 yX3_doSees wsX3_doSees) := goodIn_app (ggh_of [1013, 922, 567, 920, 67] rfl rfl rfl) ggX4_doSees_X3_doSees
theorem ggX3_doGoes_X4_doSees : GoodIn wsX3_doGoes wsX4_doSees := gga_of 926 rfl rfl rfl
theorem gX3_doGoes_X4_doSees_u38X4 : GoodIn wsX3_doGoes (va_wsO RX3 38 RX4 "MistHeaps$Heap" ⟨"MistHeaps$Heap", "doSees", "(ILjava/util/ArrayList;)I"⟩ yX4_doSees wsX4_doSees) := goodIn_app (ggh_of [1050, 922, 920, 924, 925, 81] rfl rfl rfl) ggX3_doGoes_X4_doSees
theorem gX3_doLooks_X3_doGoes_u42X4 : GoodIn wsX3_doLooks (va_wsU RX3 42 RX4 "MistHeaps$Heap" ⟨"MistHeaps$Heap", "doGoes", "(ILjava/util/ArrayList;)I"⟩ yX3_doGoes wsX3_doGoes) := goodIn_app (ggh_of [1078, 1030, 1032, 1028, 67] rfl rfl rfl) ggX3_doLooks_X3_doGoes
theorem gX3_doGoes_X3_doSees_u38X6 : GoodIn wsX3_doGoes (va_wsU RX3 38 RX6 "MistHeaps$Heap" ⟨"MistHeaps$Heap", "doSees", "(ILjava/util/ArrayList;)I"⟩ yX3_doSees wsX3_doSees) := goodIn_app (ggh_of [1050, 922, 1014, 920, 67] rfl rfl rfl) ggX3_doGoes_X3_doSees
theorem gX6_doGoes_X3_doGoes_s17 : GoodIn wsX6_doGoes (va_wsSU RX6 17 yX3_doGoes wsX3_doGoes) := goodIn_app (ggh_of [1038, 1030, 578, 1028, 67] rfl rfl rfl) ggX6_doGoes_X3_doGoes
theorem ggX3_doLooks_X6_doGoes : GoodIn wsX3_doLooks wsX6_doGoes := gga_of 1035 rfl rfl rfl
theorem gX3_doLooks_X6_doGoes_u42X6 : GoodIn wsX3_doLooks (va_wsO RX3 42 RX6 "MistHeaps$Heap" ⟨"MistHeaps$Heap", "doGoes", "(ILjava/util/ArrayList;)I"⟩ yX6_doGoes wsX6_doGoes) := goodIn_app (ggh_of [1078, 1030, 1028, 1033, 1034, 82] rfl rfl rfl) ggX3_doLooks_X6_doGoes
theorem gX3_doGoes_X3_doSees_u38X1 : GoodIn wsX3_doGoes (va_wsU RX3 38 RX1 "MistHeaps$Heap" ⟨"MistHeaps$Heap", "doSees", "(ILjava/util/ArrayList;)I"⟩ yX3_doSees wsX3_doSees) := goodIn_app (ggh_of [1050, 922, 923, 920, 67] rfl rfl rfl) ggX3_doGoes_X3_doSees
theorem gX3_doLooks_X3_doGoes_u42X1 : GoodIn wsX3_doLooks (va_wsU RX3 42 RX1 "MistHeaps$Heap" ⟨"MistHeaps$Heap", "doGoes", "(ILjava/util/ArrayList;)I"⟩ yX3_doGoes wsX3_doGoes) := goodIn_app (ggh_of [1078, 1030, 1031, 1028, 67] rfl rfl rfl) ggX3_doLooks_X3_doGoes
theorem gX1_doLooks_X3_doLooks_s13 : GoodIn wsX1_doLooks (va_wsSU RX1 13 yX3_doLooks wsX3_doLooks) := goodIn_app (ggh_of [1060, 1054, 589, 1052, 67] rfl rfl rfl) ggX1_doLooks_X3_doLooks
theorem gX3_doGoes_X4_doSees_u38X10 : GoodIn wsX3_doGoes (va_wsO RX3 38 RX10 "MistHeaps$Heap" ⟨"MistHeaps$Heap", "doSees", "(ILjava/util/ArrayList;)I"⟩ yX4_doSees wsX4_doSees) := goodIn_app (ggh_of [1050, 922, 920, 1024, 925, 81] rfl rfl rfl) ggX3_doGoes_X4_doSees
theorem gX3_doLooks_X3_doGoes_u42X10 : GoodIn wsX3_doLooks (va_wsU RX3 42 RX10 "MistHeaps$Heap" ⟨"MistHeaps$Heap", "doGoes", "(ILjava/util/ArrayList;)I"⟩ yX3_doGoes wsX3_doGoes) := goodIn_app (ggh_of [1078, 1030, 1048, 1028, 67] rfl rfl rfl) ggX3_doLooks_X3_doGoes
theorem ggX10_doLooks_X4_doSees : GoodIn wsX10_doLooks wsX4_doSees := gga_of 926 rfl rfl rfl
theorem gX10_doLooks_X4_doSees_u44X10 : GoodIn wsX10_doLooks (va_wsU RX10 44 RX10 "MistHeaps$High" ⟨"MistHeaps$Turning", "doSees", "(ILjava/util/ArrayList;)I"⟩ yX4_doSees wsX4_doSees) := goodIn_app (ggh_of [1073, 1074, 1076, 925, 81] rfl rfl rfl) ggX10_doLooks_X4_doSees
theorem ggX3_doGoes_X9_doSees : GoodIn wsX3_doGoes wsX9_doSees := gga_of 1018 rfl rfl rfl
theorem gX3_doGoes_X9_doSees_u38X9 : GoodIn wsX3_doGoes (va_wsO RX3 38 RX9 "MistHeaps$Heap" ⟨"MistHeaps$Heap", "doSees", "(ILjava/util/ArrayList;)I"⟩ yX9_doSees wsX9_doSees) := goodIn_app (ggh_of [1050, 922, 920, 1016, 1017, 85] rfl rfl rfl) ggX3_doGoes_X9_doSees
theorem gX3_doLooks_X6_doGoes_u42X9 : GoodIn wsX3_doLooks (va_wsO RX3 42 RX9 "MistHeaps$Heap" ⟨"MistHeaps$Heap", "doGoes", "(ILjava/util/ArrayList;)I"⟩ yX6_doGoes wsX6_doGoes) := goodIn_app (ggh_of [1078, 1030, 1028, 1047, 1034, 82] rfl rfl rfl) ggX3_doLooks_X6_doGoes
theorem gX3_doGoes_X3_doSees_u38X7 : GoodIn wsX3_doGoes (va_wsU RX3 38 RX7 "MistHeaps$Heap" ⟨"MistHeaps$Heap", "doSees", "(ILjava/util/ArrayList;)I"⟩ yX3_doSees wsX3_doSees) := goodIn_app (ggh_of [1050, 922, 1015, 920, 67] rfl rfl rfl) ggX3_doGoes_X3_doSees
theorem ggX3_doLooks_X7_doGoes : GoodIn wsX3_doLooks wsX7_doGoes := gga_of 1041 rfl rfl rfl
theorem gX3_doLooks_X7_doGoes_u42X7 : GoodIn wsX3_doLooks (va_wsO RX3 42 RX7 "MistHeaps$Heap" ⟨"MistHeaps$Heap", "doGoes", "(ILjava/util/ArrayList;)I"⟩ yX7_doGoes wsX7_doGoes) := goodIn_app (ggh_of [1078, 1030, 1028, 1039, 1040, 86] rfl rfl rfl) ggX3_doLooks_X7_doGoes
noncomputable def dk16bacts_cX3_doSees_0 : List (Nat × List Nat) := [(0, [4]), (1, [44]), (2, [184, 0, 34]), (5, [27]), (6, [42]), (7, [180, 0, 15]), (10, [96]), (11, [172])]
set_option maxRecDepth 100000 in
theorem dk16bacts_cX3_doSees_0_a : btA cX3_doSees dk16bacts_cX3_doSees_0 = true := by decide +kernel
theorem dX3_doSees_0 : decode cX3_doSees 0 = .ok (.iconst 1, 1) := bd4 (btAt dk16bacts_cX3_doSees_0_a 0 rfl)
theorem dX3_doSees_1 : decode cX3_doSees 1 = .ok (.aload_n 2, 1) := bd44 (btAt dk16bacts_cX3_doSees_0_a 1 rfl)
theorem dX3_doSees_2 : decode cX3_doSees 2 = .ok (.invokestatic 34, 3) := bd184 (a := 0) (b := 34) (btAt dk16bacts_cX3_doSees_0_a 2 rfl)
theorem dX3_doSees_5 : decode cX3_doSees 5 = .ok (.iload_n 1, 1) := bd27 (btAt dk16bacts_cX3_doSees_0_a 3 rfl)
theorem dX3_doSees_6 : decode cX3_doSees 6 = .ok (.aload_n 0, 1) := bd42 (btAt dk16bacts_cX3_doSees_0_a 4 rfl)
theorem dX3_doSees_7 : decode cX3_doSees 7 = .ok (.getfield 15, 3) := bd180 (a := 0) (b := 15) (btAt dk16bacts_cX3_doSees_0_a 5 rfl)
theorem dX3_doSees_10 : decode cX3_doSees 10 = .ok (.iadd, 1) := bd96 (btAt dk16bacts_cX3_doSees_0_a 6 rfl)
theorem dX3_doSees_11 : decode cX3_doSees 11 = .ok (.ireturn, 1) := bd172 (btAt dk16bacts_cX3_doSees_0_a 7 rfl)
noncomputable def dk16bacts_cX3_doGoes_0 : List (Nat × List Nat) := [(0, [5]), (1, [44]), (2, [184, 0, 34]), (5, [42]), (6, [27]), (7, [44]), (8, [182, 0, 38]), (11, [42]), (12, [180, 0, 18]), (15, [100]), (16, [172])]
set_option maxRecDepth 100000 in
theorem dk16bacts_cX3_doGoes_0_a : btA cX3_doGoes dk16bacts_cX3_doGoes_0 = true := by decide +kernel
theorem dX3_doGoes_0 : decode cX3_doGoes 0 = .ok (.iconst 2, 1) := bd5 (btAt dk16bacts_cX3_doGoes_0_a 0 rfl)
theorem dX3_doGoes_1 : decode cX3_doGoes 1 = .ok (.aload_n 2, 1) := bd44 (btAt dk16bacts_cX3_doGoes_0_a 1 rfl)
theorem dX3_doGoes_2 : decode cX3_doGoes 2 = .ok (.invokestatic 34, 3) := bd184 (a := 0) (b := 34) (btAt dk16bacts_cX3_doGoes_0_a 2 rfl)
theorem dX3_doGoes_5 : decode cX3_doGoes 5 = .ok (.aload_n 0, 1) := bd42 (btAt dk16bacts_cX3_doGoes_0_a 3 rfl)
theorem dX3_doGoes_6 : decode cX3_doGoes 6 = .ok (.iload_n 1, 1) := bd27 (btAt dk16bacts_cX3_doGoes_0_a 4 rfl)
theorem dX3_doGoes_7 : decode cX3_doGoes 7 = .ok (.aload_n 2, 1) := bd44 (btAt dk16bacts_cX3_doGoes_0_a 5 rfl)
theorem dX3_doGoes_8 : decode cX3_doGoes 8 = .ok (.invokevirtual 38, 3) := bd182 (a := 0) (b := 38) (btAt dk16bacts_cX3_doGoes_0_a 6 rfl)
theorem dX3_doGoes_11 : decode cX3_doGoes 11 = .ok (.aload_n 0, 1) := bd42 (btAt dk16bacts_cX3_doGoes_0_a 7 rfl)
theorem dX3_doGoes_12 : decode cX3_doGoes 12 = .ok (.getfield 18, 3) := bd180 (a := 0) (b := 18) (btAt dk16bacts_cX3_doGoes_0_a 8 rfl)
theorem dX3_doGoes_15 : decode cX3_doGoes 15 = .ok (.isub, 1) := bd100 (btAt dk16bacts_cX3_doGoes_0_a 9 rfl)
theorem dX3_doGoes_16 : decode cX3_doGoes 16 = .ok (.ireturn, 1) := bd172 (btAt dk16bacts_cX3_doGoes_0_a 10 rfl)
noncomputable def dk16bacts_cX3_doLooks_0 : List (Nat × List Nat) := [(0, [6]), (1, [44]), (2, [184, 0, 34]), (5, [42]), (6, [27]), (7, [44]), (8, [182, 0, 42]), (11, [5]), (12, [104]), (13, [172])]
set_option maxRecDepth 100000 in
theorem dk16bacts_cX3_doLooks_0_a : btA cX3_doLooks dk16bacts_cX3_doLooks_0 = true := by decide +kernel
theorem dX3_doLooks_0 : decode cX3_doLooks 0 = .ok (.iconst 3, 1) := bd6 (btAt dk16bacts_cX3_doLooks_0_a 0 rfl)
theorem dX3_doLooks_1 : decode cX3_doLooks 1 = .ok (.aload_n 2, 1) := bd44 (btAt dk16bacts_cX3_doLooks_0_a 1 rfl)
theorem dX3_doLooks_2 : decode cX3_doLooks 2 = .ok (.invokestatic 34, 3) := bd184 (a := 0) (b := 34) (btAt dk16bacts_cX3_doLooks_0_a 2 rfl)
theorem dX3_doLooks_5 : decode cX3_doLooks 5 = .ok (.aload_n 0, 1) := bd42 (btAt dk16bacts_cX3_doLooks_0_a 3 rfl)
theorem dX3_doLooks_6 : decode cX3_doLooks 6 = .ok (.iload_n 1, 1) := bd27 (btAt dk16bacts_cX3_doLooks_0_a 4 rfl)
theorem dX3_doLooks_7 : decode cX3_doLooks 7 = .ok (.aload_n 2, 1) := bd44 (btAt dk16bacts_cX3_doLooks_0_a 5 rfl)
theorem dX3_doLooks_8 : decode cX3_doLooks 8 = .ok (.invokevirtual 42, 3) := bd182 (a := 0) (b := 42) (btAt dk16bacts_cX3_doLooks_0_a 6 rfl)
theorem dX3_doLooks_11 : decode cX3_doLooks 11 = .ok (.iconst 2, 1) := bd5 (btAt dk16bacts_cX3_doLooks_0_a 7 rfl)
theorem dX3_doLooks_12 : decode cX3_doLooks 12 = .ok (.imul, 1) := bd104 (btAt dk16bacts_cX3_doLooks_0_a 8 rfl)
theorem dX3_doLooks_13 : decode cX3_doLooks 13 = .ok (.ireturn, 1) := bd172 (btAt dk16bacts_cX3_doLooks_0_a 9 rfl)
noncomputable def dk16bacts_cX4_doSees_0 : List (Nat × List Nat) := [(0, [16, 11]), (2, [44]), (3, [184, 0, 17]), (6, [42]), (7, [27]), (8, [6]), (9, [104]), (10, [44]), (11, [183, 0, 21]), (14, [172])]
set_option maxRecDepth 100000 in
theorem dk16bacts_cX4_doSees_0_a : btA cX4_doSees dk16bacts_cX4_doSees_0 = true := by decide +kernel
theorem dX4_doSees_0 : decode cX4_doSees 0 = .ok (.bipush 11, 2) := bd16 (a := 11) (btAt dk16bacts_cX4_doSees_0_a 0 rfl)
theorem dX4_doSees_2 : decode cX4_doSees 2 = .ok (.aload_n 2, 1) := bd44 (btAt dk16bacts_cX4_doSees_0_a 1 rfl)
theorem dX4_doSees_3 : decode cX4_doSees 3 = .ok (.invokestatic 17, 3) := bd184 (a := 0) (b := 17) (btAt dk16bacts_cX4_doSees_0_a 2 rfl)
theorem dX4_doSees_6 : decode cX4_doSees 6 = .ok (.aload_n 0, 1) := bd42 (btAt dk16bacts_cX4_doSees_0_a 3 rfl)
theorem dX4_doSees_7 : decode cX4_doSees 7 = .ok (.iload_n 1, 1) := bd27 (btAt dk16bacts_cX4_doSees_0_a 4 rfl)
theorem dX4_doSees_8 : decode cX4_doSees 8 = .ok (.iconst 3, 1) := bd6 (btAt dk16bacts_cX4_doSees_0_a 5 rfl)
theorem dX4_doSees_9 : decode cX4_doSees 9 = .ok (.imul, 1) := bd104 (btAt dk16bacts_cX4_doSees_0_a 6 rfl)
theorem dX4_doSees_10 : decode cX4_doSees 10 = .ok (.aload_n 2, 1) := bd44 (btAt dk16bacts_cX4_doSees_0_a 7 rfl)
theorem dX4_doSees_11 : decode cX4_doSees 11 = .ok (.invokespecial 21, 3) := bd183 (a := 0) (b := 21) (btAt dk16bacts_cX4_doSees_0_a 8 rfl)
theorem dX4_doSees_14 : decode cX4_doSees 14 = .ok (.ireturn, 1) := bd172 (btAt dk16bacts_cX4_doSees_0_a 9 rfl)
noncomputable def dk16bacts_cX6_doGoes_0 : List (Nat × List Nat) := [(0, [16, 21]), (2, [44]), (3, [184, 0, 11]), (6, [42]), (7, [27]), (8, [44]), (9, [183, 0, 17]), (12, [116]), (13, [172])]
set_option maxRecDepth 100000 in
theorem dk16bacts_cX6_doGoes_0_a : btA cX6_doGoes dk16bacts_cX6_doGoes_0 = true := by decide +kernel
theorem dX6_doGoes_0 : decode cX6_doGoes 0 = .ok (.bipush 21, 2) := bd16 (a := 21) (btAt dk16bacts_cX6_doGoes_0_a 0 rfl)
theorem dX6_doGoes_2 : decode cX6_doGoes 2 = .ok (.aload_n 2, 1) := bd44 (btAt dk16bacts_cX6_doGoes_0_a 1 rfl)
theorem dX6_doGoes_3 : decode cX6_doGoes 3 = .ok (.invokestatic 11, 3) := bd184 (a := 0) (b := 11) (btAt dk16bacts_cX6_doGoes_0_a 2 rfl)
theorem dX6_doGoes_6 : decode cX6_doGoes 6 = .ok (.aload_n 0, 1) := bd42 (btAt dk16bacts_cX6_doGoes_0_a 3 rfl)
theorem dX6_doGoes_7 : decode cX6_doGoes 7 = .ok (.iload_n 1, 1) := bd27 (btAt dk16bacts_cX6_doGoes_0_a 4 rfl)
theorem dX6_doGoes_8 : decode cX6_doGoes 8 = .ok (.aload_n 2, 1) := bd44 (btAt dk16bacts_cX6_doGoes_0_a 5 rfl)
theorem dX6_doGoes_9 : decode cX6_doGoes 9 = .ok (.invokespecial 17, 3) := bd183 (a := 0) (b := 17) (btAt dk16bacts_cX6_doGoes_0_a 6 rfl)
theorem dX6_doGoes_12 : decode cX6_doGoes 12 = .ok (.ineg, 1) := bd116 (btAt dk16bacts_cX6_doGoes_0_a 7 rfl)
theorem dX6_doGoes_13 : decode cX6_doGoes 13 = .ok (.ireturn, 1) := bd172 (btAt dk16bacts_cX6_doGoes_0_a 8 rfl)
noncomputable def dk16bacts_cX1_doLooks_0 : List (Nat × List Nat) := [(0, [16, 31]), (2, [44]), (3, [184, 0, 7]), (6, [42]), (7, [27]), (8, [44]), (9, [183, 0, 13]), (12, [16, 7]), (14, [130]), (15, [172])]
set_option maxRecDepth 100000 in
theorem dk16bacts_cX1_doLooks_0_a : btA cX1_doLooks dk16bacts_cX1_doLooks_0 = true := by decide +kernel
theorem dX1_doLooks_0 : decode cX1_doLooks 0 = .ok (.bipush 31, 2) := bd16 (a := 31) (btAt dk16bacts_cX1_doLooks_0_a 0 rfl)
theorem dX1_doLooks_2 : decode cX1_doLooks 2 = .ok (.aload_n 2, 1) := bd44 (btAt dk16bacts_cX1_doLooks_0_a 1 rfl)
theorem dX1_doLooks_3 : decode cX1_doLooks 3 = .ok (.invokestatic 7, 3) := bd184 (a := 0) (b := 7) (btAt dk16bacts_cX1_doLooks_0_a 2 rfl)
theorem dX1_doLooks_6 : decode cX1_doLooks 6 = .ok (.aload_n 0, 1) := bd42 (btAt dk16bacts_cX1_doLooks_0_a 3 rfl)
theorem dX1_doLooks_7 : decode cX1_doLooks 7 = .ok (.iload_n 1, 1) := bd27 (btAt dk16bacts_cX1_doLooks_0_a 4 rfl)
theorem dX1_doLooks_8 : decode cX1_doLooks 8 = .ok (.aload_n 2, 1) := bd44 (btAt dk16bacts_cX1_doLooks_0_a 5 rfl)
theorem dX1_doLooks_9 : decode cX1_doLooks 9 = .ok (.invokespecial 13, 3) := bd183 (a := 0) (b := 13) (btAt dk16bacts_cX1_doLooks_0_a 6 rfl)
theorem dX1_doLooks_12 : decode cX1_doLooks 12 = .ok (.bipush 7, 2) := bd16 (a := 7) (btAt dk16bacts_cX1_doLooks_0_a 7 rfl)
theorem dX1_doLooks_14 : decode cX1_doLooks 14 = .ok (.ixor, 1) := bd130 (btAt dk16bacts_cX1_doLooks_0_a 8 rfl)
theorem dX1_doLooks_15 : decode cX1_doLooks 15 = .ok (.ireturn, 1) := bd172 (btAt dk16bacts_cX1_doLooks_0_a 9 rfl)
noncomputable def dk16bacts_cX10_doLooks_0 : List (Nat × List Nat) := [(0, [16, 41]), (2, [44]), (3, [184, 0, 36]), (6, [42]), (7, [27]), (8, [4]), (9, [100]), (10, [44]), (11, [183, 0, 40]), (14, [62]), (15, [29]), (16, [42]), (17, [5]), (18, [44]), (19, [182, 0, 44]), (22, [96]), (23, [172])]
set_option maxRecDepth 100000 in
theorem dk16bacts_cX10_doLooks_0_a : btA cX10_doLooks dk16bacts_cX10_doLooks_0 = true := by decide +kernel
theorem dX10_doLooks_0 : decode cX10_doLooks 0 = .ok (.bipush 41, 2) := bd16 (a := 41) (btAt dk16bacts_cX10_doLooks_0_a 0 rfl)
theorem dX10_doLooks_2 : decode cX10_doLooks 2 = .ok (.aload_n 2, 1) := bd44 (btAt dk16bacts_cX10_doLooks_0_a 1 rfl)
theorem dX10_doLooks_3 : decode cX10_doLooks 3 = .ok (.invokestatic 36, 3) := bd184 (a := 0) (b := 36) (btAt dk16bacts_cX10_doLooks_0_a 2 rfl)
theorem dX10_doLooks_6 : decode cX10_doLooks 6 = .ok (.aload_n 0, 1) := bd42 (btAt dk16bacts_cX10_doLooks_0_a 3 rfl)
theorem dX10_doLooks_7 : decode cX10_doLooks 7 = .ok (.iload_n 1, 1) := bd27 (btAt dk16bacts_cX10_doLooks_0_a 4 rfl)
theorem dX10_doLooks_8 : decode cX10_doLooks 8 = .ok (.iconst 1, 1) := bd4 (btAt dk16bacts_cX10_doLooks_0_a 5 rfl)
theorem dX10_doLooks_9 : decode cX10_doLooks 9 = .ok (.isub, 1) := bd100 (btAt dk16bacts_cX10_doLooks_0_a 6 rfl)
theorem dX10_doLooks_10 : decode cX10_doLooks 10 = .ok (.aload_n 2, 1) := bd44 (btAt dk16bacts_cX10_doLooks_0_a 7 rfl)
theorem dX10_doLooks_11 : decode cX10_doLooks 11 = .ok (.invokespecial 40, 3) := bd183 (a := 0) (b := 40) (btAt dk16bacts_cX10_doLooks_0_a 8 rfl)
theorem dX10_doLooks_14 : decode cX10_doLooks 14 = .ok (.istore_n 3, 1) := bd62 (btAt dk16bacts_cX10_doLooks_0_a 9 rfl)
theorem dX10_doLooks_15 : decode cX10_doLooks 15 = .ok (.iload_n 3, 1) := bd29 (btAt dk16bacts_cX10_doLooks_0_a 10 rfl)
theorem dX10_doLooks_16 : decode cX10_doLooks 16 = .ok (.aload_n 0, 1) := bd42 (btAt dk16bacts_cX10_doLooks_0_a 11 rfl)
theorem dX10_doLooks_17 : decode cX10_doLooks 17 = .ok (.iconst 2, 1) := bd5 (btAt dk16bacts_cX10_doLooks_0_a 12 rfl)
theorem dX10_doLooks_18 : decode cX10_doLooks 18 = .ok (.aload_n 2, 1) := bd44 (btAt dk16bacts_cX10_doLooks_0_a 13 rfl)
theorem dX10_doLooks_19 : decode cX10_doLooks 19 = .ok (.invokevirtual 44, 3) := bd182 (a := 0) (b := 44) (btAt dk16bacts_cX10_doLooks_0_a 14 rfl)
theorem dX10_doLooks_22 : decode cX10_doLooks 22 = .ok (.iadd, 1) := bd96 (btAt dk16bacts_cX10_doLooks_0_a 15 rfl)
theorem dX10_doLooks_23 : decode cX10_doLooks 23 = .ok (.ireturn, 1) := bd172 (btAt dk16bacts_cX10_doLooks_0_a 16 rfl)
noncomputable def dk16bacts_cX9_doSees_0 : List (Nat × List Nat) := [(0, [16, 51]), (2, [44]), (3, [184, 0, 17]), (6, [42]), (7, [27]), (8, [44]), (9, [183, 0, 21]), (12, [42]), (13, [180, 0, 25]), (16, [130]), (17, [172])]
set_option maxRecDepth 100000 in
theorem dk16bacts_cX9_doSees_0_a : btA cX9_doSees dk16bacts_cX9_doSees_0 = true := by decide +kernel
theorem dX9_doSees_0 : decode cX9_doSees 0 = .ok (.bipush 51, 2) := bd16 (a := 51) (btAt dk16bacts_cX9_doSees_0_a 0 rfl)
theorem dX9_doSees_2 : decode cX9_doSees 2 = .ok (.aload_n 2, 1) := bd44 (btAt dk16bacts_cX9_doSees_0_a 1 rfl)
theorem dX9_doSees_3 : decode cX9_doSees 3 = .ok (.invokestatic 17, 3) := bd184 (a := 0) (b := 17) (btAt dk16bacts_cX9_doSees_0_a 2 rfl)
theorem dX9_doSees_6 : decode cX9_doSees 6 = .ok (.aload_n 0, 1) := bd42 (btAt dk16bacts_cX9_doSees_0_a 3 rfl)
theorem dX9_doSees_7 : decode cX9_doSees 7 = .ok (.iload_n 1, 1) := bd27 (btAt dk16bacts_cX9_doSees_0_a 4 rfl)
theorem dX9_doSees_8 : decode cX9_doSees 8 = .ok (.aload_n 2, 1) := bd44 (btAt dk16bacts_cX9_doSees_0_a 5 rfl)
theorem dX9_doSees_9 : decode cX9_doSees 9 = .ok (.invokespecial 21, 3) := bd183 (a := 0) (b := 21) (btAt dk16bacts_cX9_doSees_0_a 6 rfl)
theorem dX9_doSees_12 : decode cX9_doSees 12 = .ok (.aload_n 0, 1) := bd42 (btAt dk16bacts_cX9_doSees_0_a 7 rfl)
theorem dX9_doSees_13 : decode cX9_doSees 13 = .ok (.getfield 25, 3) := bd180 (a := 0) (b := 25) (btAt dk16bacts_cX9_doSees_0_a 8 rfl)
theorem dX9_doSees_16 : decode cX9_doSees 16 = .ok (.ixor, 1) := bd130 (btAt dk16bacts_cX9_doSees_0_a 9 rfl)
theorem dX9_doSees_17 : decode cX9_doSees 17 = .ok (.ireturn, 1) := bd172 (btAt dk16bacts_cX9_doSees_0_a 10 rfl)
noncomputable def dk16bacts_cX7_doGoes_0 : List (Nat × List Nat) := [(0, [16, 61]), (2, [44]), (3, [184, 0, 16]), (6, [42]), (7, [27]), (8, [44]), (9, [183, 0, 22]), (12, [42]), (13, [180, 0, 26]), (16, [96]), (17, [172])]
set_option maxRecDepth 100000 in
theorem dk16bacts_cX7_doGoes_0_a : btA cX7_doGoes dk16bacts_cX7_doGoes_0 = true := by decide +kernel
theorem dX7_doGoes_0 : decode cX7_doGoes 0 = .ok (.bipush 61, 2) := bd16 (a := 61) (btAt dk16bacts_cX7_doGoes_0_a 0 rfl)
theorem dX7_doGoes_2 : decode cX7_doGoes 2 = .ok (.aload_n 2, 1) := bd44 (btAt dk16bacts_cX7_doGoes_0_a 1 rfl)
theorem dX7_doGoes_3 : decode cX7_doGoes 3 = .ok (.invokestatic 16, 3) := bd184 (a := 0) (b := 16) (btAt dk16bacts_cX7_doGoes_0_a 2 rfl)
theorem dX7_doGoes_6 : decode cX7_doGoes 6 = .ok (.aload_n 0, 1) := bd42 (btAt dk16bacts_cX7_doGoes_0_a 3 rfl)
theorem dX7_doGoes_7 : decode cX7_doGoes 7 = .ok (.iload_n 1, 1) := bd27 (btAt dk16bacts_cX7_doGoes_0_a 4 rfl)
theorem dX7_doGoes_8 : decode cX7_doGoes 8 = .ok (.aload_n 2, 1) := bd44 (btAt dk16bacts_cX7_doGoes_0_a 5 rfl)
theorem dX7_doGoes_9 : decode cX7_doGoes 9 = .ok (.invokespecial 22, 3) := bd183 (a := 0) (b := 22) (btAt dk16bacts_cX7_doGoes_0_a 6 rfl)
theorem dX7_doGoes_12 : decode cX7_doGoes 12 = .ok (.aload_n 0, 1) := bd42 (btAt dk16bacts_cX7_doGoes_0_a 7 rfl)
theorem dX7_doGoes_13 : decode cX7_doGoes 13 = .ok (.getfield 26, 3) := bd180 (a := 0) (b := 26) (btAt dk16bacts_cX7_doGoes_0_a 8 rfl)
theorem dX7_doGoes_16 : decode cX7_doGoes 16 = .ok (.iadd, 1) := bd96 (btAt dk16bacts_cX7_doGoes_0_a 9 rfl)
theorem dX7_doGoes_17 : decode cX7_doGoes 17 = .ok (.ireturn, 1) := bd172 (btAt dk16bacts_cX7_doGoes_0_a 10 rfl)
theorem kc_X3_doSees_X3_1_0 : (.fieldLink RX3 15 "MistHeaps$Heap" "number" "I" : Cond) ∈ wsX3_doSees := kc_of 231 rfl rfl rfl
theorem kc_X3_doSees_X3_1_1 : ∀ w ∈ wsX30, w ∈ wsX3_doSees := fun w h => List.mem_cons_of_mem _ (gin_wsX30 w h)
set_option maxHeartbeats 4000000 in
set_option maxRecDepth 100000 in
theorem c_X3_doSees_X3_1 (l : Launch) (dC : Nat → ClassId) (dI : Nat → Nat → Nat) (ad : Nat → Nat) (cB bS : Nat)    (bo : Nat) (aEl : Nat) (i0 : Nat) (sk : Int32) (sv : Int32) (scl : Int32) (x : Int32) (cEl : ClassId) (fEl : Nat → Option Nat) (a0 : Nat) (sz_ : Nat) (mdc : Int32) (tl : List Nat) (sz : Nat) (hsz : sz_ + 1 ≤ 10) (zL : okL ad fEl sz_ tl) : Met l yX3_doSees wsX3_doSees ({ frames := 3, cells := 0, slots := 0, locals := 65 } : Room) (va_Pc [.ref a0, .int x, .ref bo] (fun U => U.heap.size = sz ∧ va_P (dC, dI) vwCl [(zo1iri bo mdc aEl (nI sz_)), (zaR aEl cEl 10 fEl)] U.heap ∧ va_K (dC, dI) vwCl [(cEl, .object "java/lang/Object")] U ∧ va_D (fun _ => True) [(zo1iri bo mdc aEl (nI sz_)), (zaR aEl cEl 10 fEl)] ∧ Gi ad cB bS (va_A [(zo1iri bo mdc aEl (nI sz_)), (zaR aEl cEl 10 fEl)] sz) U ∧ Gb (va_A [(zo1iri bo mdc aEl (nI sz_)), (zaR aEl cEl 10 fEl)] sz) U ∧ Gw (va_A [(zo1iri bo mdc aEl (nI sz_)), (zaR aEl cEl 10 fEl)] sz) U ∧ Fz dC dI [(zo5iiii a0 sk (nI i0) sv scl)] [] (va_A [(zo1iri bo mdc aEl (nI sz_)), (zaR aEl cEl 10 fEl)] sz) U)) (va_Qi (fun (r : Int32) (u : (Int32) × (Nat) × (Nat → Option Nat)) => match u with | (mdc9, sz_9, fEl9) => r = x + nI i0 ∧ sz_9 = sz_ + 1 ∧ okL ad fEl9 sz_9 (tl ++ [1])) (fun (u : (Int32) × (Nat) × (Nat → Option Nat)) (t : State) => match u with | (mdc9, sz_9, fEl9) => va_P (dC, dI) vwCl [(zo1iri bo mdc9 aEl (nI sz_9)), (zaR aEl cEl 10 fEl9)] t.heap ∧ va_K (dC, dI) vwCl [(cEl, .object "java/lang/Object")] t ∧ va_D (va_A [(zo1iri bo mdc aEl (nI sz_)), (zaR aEl cEl 10 fEl)] sz) [(zo1iri bo mdc9 aEl (nI sz_9)), (zaR aEl cEl 10 fEl9)]) (va_A [(zo1iri bo mdc aEl (nI sz_)), (zaR aEl cEl 10 fEl)] sz)) 0 0 (va_A [(zo1iri bo mdc aEl (nI sz_)), (zaR aEl cEl 10 fEl)] sz) := by
  refine met_ofQ (cc := cX3_doSees) (maxL := 3) (ret := (some .int)) (by decide) rfl ?_
  intro p e s m args below meth c s₁ Q B hml hv hQ
  obtain ⟨rfl, hsz, hP, hK, hD0, hI_, hB_, hW_, hZ⟩ := hv
  have hx := B.exec
  have hb := B.bytes
  have hr := B.returns
  have hts := atoms_spec (ws := wsX3_doSees) B.pre
  have hown : s.vm.findClass RX3 = some m.cls := findClass_of_methodNamed B.named
  have hlocks := B.notSynchronized
  subst hsz
  have hD := hD0.self (sz := s.heap.size)
  generalize hAe : va_A [(zo1iri bo mdc aEl (nI sz_)), (zaR aEl cEl 10 fEl)] s.heap.size = A at hD hQ hI_ hB_ hW_ hZ ⊢
  have hA : ∀ q : Nat, s.heap.size ≤ q → A q := fun q h => by rw [← hAe]; exact Or.inr h
  have hS : va_S A s.heap s.heap [] := va_S.rf
  have hl := lv_entry [.ref a0, .int x, .ref bo] (n := 3) (Nat.le_of_ble_eq_true rfl)
  rw [lg_entry_eq]
  generalize (lg_sl [.ref a0, .int x, .ref bo] ++ List.replicate (3 - (lg_sl [.ref a0, .int x, .ref bo]).length) Slot.unset).toArray = ls at hl ⊢
  generalize hag : ([.ref a0, .int x, .ref bo] : List Value).toArray = args at hts hQ ⊢
  have hl : lv_has ls 3 [(0, .ref a0), (1, .int x), (2, .ref bo)] := hl
  obtain ⟨H, hH⟩ : ∃ H : Heap, H = s.heap := ⟨_, rfl⟩
  rw [← hH] at hP
  rw [← hH]
  have hS : va_S A s.heap H [] := by rw [hH]; exact hS
  obtain ⟨locs, hlo⟩ : ∃ L : List Loc, L = [] := ⟨_, rfl⟩
  rw [← hlo] at hS
  rw [← hlo]
  clear hH hlo
  refine lv_iconst (v := 1) hx hb dX3_doSees_0 (by decide) ?_
  refine lv_aload_n hx hb dX3_doSees_1 rfl (lv_at hl 2 rfl) ?_
  have hPc := hP.sub (ws' := [(zo1iri bo mdc aEl (nI sz_)), (zaR aEl cEl 10 fEl)]) [0, 1] rfl
  have hDc := hD.sub (ws' := [(zo1iri bo mdc aEl (nI sz_)), (zaR aEl cEl 10 fEl)]) [0, 1] (by decide) rfl
  have hKc := hK.sub (tys' := [(cEl, .object "java/lang/Object")]) [0] rfl
  have hFc := va_free (wc := [(zo1iri bo mdc aEl (nI sz_)), (zaR aEl cEl 10 fEl)]) hD hS hA [0, 1] rfl
  refine va_callv (va_runS (As := [.int 1, .ref bo]) (rest := []) ⟨hx, hb, hml, hown, hts⟩ (c_begin1 l dC dI ad cB bS bo aEl 1 cEl fEl sz_ mdc tl H.size (by omega) (by omega) (zL)) (va_cwS 2 hts gX3_doSees_X3_begin rfl rfl rfl hd_yX3_begin.2 ⟨Nat.le_of_ble_eq_true rfl, Nat.le_of_ble_eq_true rfl⟩) ⟨fun a U g mk q => by obtain ⟨q0, q1, qP, qK, qD, qhI_⟩ := q; exact ⟨q0, mvz g mk a q1, mvP g mk a qP, mvK g mk a qK, qD, qhI_.mv g mk a⟩, fun U hU hW => ⟨rfl, by rw [hU], by rw [hU]; exact hPc, va_K.moved hW.alike hKc, hDc.weaken (fun _ _ _ _ => trivial), hI_.call hS hU hW (fun q h => hFc q h)⟩⟩ rfl rfl hl.1 rfl (lv_room (Nat.le_of_ble_eq_true rfl)) dX3_doSees_2 ⟨Nat.le_of_ble_eq_true rfl, Nat.le_of_ble_eq_true rfl⟩) hS (fun q _ h => hFc q h) hFc (fun u tC H1 locs htC hvm hw_2 hB hz1 hk1 hS => ?_)
  obtain ⟨mdc9_3, sz_9_4, fEl9_5⟩ := u
  try dsimp only at hw_2 hB
  obtain ⟨hP1, hK1, hD1⟩ := hB
  rw [htC] at hP1
  have hK1 := va_K.moved hvm.symm hK1
  obtain ⟨hP, hD⟩ := va_join (wr := []) (w1 := [(zo1iri bo mdc9_3 aEl (nI sz_9_4)), (zaR aEl cEl 10 fEl9_5)]) hP hD [0, 1] [] rfl rfl (by decide) (by decide) hk1 hFc hP1 hD1
  have hK := (hK.sub (tys' := []) [] rfl).app hK1
  generalize H1 = H at hP hS ⊢
  have hP : va_P (dC, dI) vwCl [(zo1iri bo mdc9_3 aEl (nI sz_9_4)), (zaR aEl cEl 10 fEl9_5)] H := hP
  have hD : va_D A [(zo1iri bo mdc9_3 aEl (nI sz_9_4)), (zaR aEl cEl 10 fEl9_5)] := hD
  have hK : va_K (dC, dI) vwCl [(cEl, .object "java/lang/Object")] s := hK
  obtain ⟨e_6, hL_7⟩ := hw_2
  obtain rfl := (e_6).symm
  refine lv_iload_n hx hb dX3_doSees_5 rfl (lv_at hl 1 rfl) ?_
  refine lv_aload_n hx hb dX3_doSees_6 rfl (lv_at hl 0 rfl) ?_
  refine va_get (D := (dC, dI)) (ci := 5) (v := .int (nI i0)) (C := RX3) (T := TX3) (N := 4) hx hb hts kc_X3_doSees_X3_1_1 hown hZ.2.1 (hZ.P hS) 0 rfl rfl 1 (by decide) (hts (.fieldLink RX3 15 "MistHeaps$Heap" "number" "I") kc_X3_doSees_X3_1_0) (fun _ h9 => h9) rfl dX3_doSees_7 ?_
  refine lv_iadd hx hb dX3_doSees_10 ?_
  rw [hQ]
  have hP9 := hP.sub (ws' := [(zo1iri bo mdc9_3 aEl (nI (sz_ + 1))), (zaR aEl cEl 10 fEl9_5)]) [0, 1] rfl
  have hD9 := hD.sub (ws' := [(zo1iri bo mdc9_3 aEl (nI (sz_ + 1))), (zaR aEl cEl 10 fEl9_5)]) [0, 1] (by decide) rfl
  have hK9 := hK.sub (tys' := [(cEl, .object "java/lang/Object")]) [0] rfl
  exact W.iret (v := x + (nI i0)) hx hb hr (fun tQ htQ hWQ => ⟨⟨(x + (nI i0)), (mdc9_3, (sz_ + 1), fEl9_5), rfl, ⟨rfl, by omega, by have h9 := hL_7; exact h9⟩, by rw [htQ]; exact hP9, va_K.moved hWQ.alike hK9, hD9⟩, hS.F htQ⟩) hS.2.2 dX3_doSees_11

theorem kc_X3_doSees_X3_0_0 : (.fieldLink RX3 15 "MistHeaps$Heap" "number" "I" : Cond) ∈ wsX3_doSees := kc_of 231 rfl rfl rfl
theorem kc_X3_doSees_X3_0_1 : ∀ w ∈ wsX30, w ∈ wsX3_doSees := fun w h => List.mem_cons_of_mem _ (gin_wsX30 w h)
set_option maxHeartbeats 4000000 in
set_option maxRecDepth 100000 in
theorem c_X3_doSees_X3_0 (l : Launch) (dC : Nat → ClassId) (dI : Nat → Nat → Nat) (ad : Nat → Nat) (cB bS : Nat)    (bo : Nat) (i0 : Nat) (sk : Int32) (sv : Int32) (scl : Int32) (x : Int32) (a0 : Nat) (mdc : Int32) (sz : Nat) : Met l yX3_doSees wsX3_doSees ({ frames := 6, cells := 1, slots := 10, locals := 122 } : Room) (va_Pc [.ref a0, .int x, .ref bo] (fun U => U.heap.size = sz ∧ va_P (dC, dI) vwCl [(zo1iri bo mdc bS 0)] U.heap ∧ va_K (dC, dI) vwCl [] U ∧ va_D (fun _ => True) [(zo1iri bo mdc bS 0)] ∧ Gi ad cB bS (va_A [(zo1iri bo mdc bS 0)] sz) U ∧ Gb (va_A [(zo1iri bo mdc bS 0)] sz) U ∧ Gw (va_A [(zo1iri bo mdc bS 0)] sz) U ∧ Fz dC dI [(zo5iiii a0 sk (nI i0) sv scl)] [] (va_A [(zo1iri bo mdc bS 0)] sz) U)) (va_Qi (fun (r : Int32) (u : (Int32) × (Nat) × (ClassId) × (Nat) × (Nat → Option Nat)) => match u with | (mdc9, aEl9, cEl9, sz_9, fEl9) => r = x + nI i0 ∧ sz_9 = 1 ∧ okL ad fEl9 sz_9 [1]) (fun (u : (Int32) × (Nat) × (ClassId) × (Nat) × (Nat → Option Nat)) (t : State) => match u with | (mdc9, aEl9, cEl9, sz_9, fEl9) => va_P (dC, dI) vwCl [(zo1iri bo mdc9 aEl9 (nI sz_9)), (zaR aEl9 cEl9 10 fEl9)] t.heap ∧ va_K (dC, dI) vwCl [(cEl9, .object "java/lang/Object")] t ∧ va_D (va_A [(zo1iri bo mdc bS 0)] sz) [(zo1iri bo mdc9 aEl9 (nI sz_9)), (zaR aEl9 cEl9 10 fEl9)]) (va_A [(zo1iri bo mdc bS 0)] sz)) 1 10 (va_A [(zo1iri bo mdc bS 0)] sz) := by
  refine met_ofQ (cc := cX3_doSees) (maxL := 3) (ret := (some .int)) (by decide) rfl ?_
  intro p e s m args below meth c s₁ Q B hml hv hQ
  obtain ⟨rfl, hsz, hP, hK, hD0, hI_, hB_, hW_, hZ⟩ := hv
  have hx := B.exec
  have hb := B.bytes
  have hr := B.returns
  have hts := atoms_spec (ws := wsX3_doSees) B.pre
  have hown : s.vm.findClass RX3 = some m.cls := findClass_of_methodNamed B.named
  have hlocks := B.notSynchronized
  subst hsz
  have hD := hD0.self (sz := s.heap.size)
  generalize hAe : va_A [(zo1iri bo mdc bS 0)] s.heap.size = A at hD hQ hI_ hB_ hW_ hZ ⊢
  have hA : ∀ q : Nat, s.heap.size ≤ q → A q := fun q h => by rw [← hAe]; exact Or.inr h
  have hS : va_S A s.heap s.heap [] := va_S.rf
  have hl := lv_entry [.ref a0, .int x, .ref bo] (n := 3) (Nat.le_of_ble_eq_true rfl)
  rw [lg_entry_eq]
  generalize (lg_sl [.ref a0, .int x, .ref bo] ++ List.replicate (3 - (lg_sl [.ref a0, .int x, .ref bo]).length) Slot.unset).toArray = ls at hl ⊢
  generalize hag : ([.ref a0, .int x, .ref bo] : List Value).toArray = args at hts hQ ⊢
  have hl : lv_has ls 3 [(0, .ref a0), (1, .int x), (2, .ref bo)] := hl
  obtain ⟨H, hH⟩ : ∃ H : Heap, H = s.heap := ⟨_, rfl⟩
  rw [← hH] at hP
  rw [← hH]
  have hS : va_S A s.heap H [] := by rw [hH]; exact hS
  obtain ⟨locs, hlo⟩ : ∃ L : List Loc, L = [] := ⟨_, rfl⟩
  rw [← hlo] at hS
  rw [← hlo]
  clear hH hlo
  refine lv_iconst (v := 1) hx hb dX3_doSees_0 (by decide) ?_
  refine lv_aload_n hx hb dX3_doSees_1 rfl (lv_at hl 2 rfl) ?_
  have hPc := hP.sub (ws' := [(zo1iri bo mdc bS 0)]) [0] rfl
  have hDc := hD.sub (ws' := [(zo1iri bo mdc bS 0)]) [0] (by decide) rfl
  have hKc := hK.sub (tys' := []) [] rfl
  have hFc := va_free (wc := [(zo1iri bo mdc bS 0)]) hD hS hA [0] rfl
  refine va_callv (va_runS (As := [.int 1, .ref bo]) (rest := []) ⟨hx, hb, hml, hown, hts⟩ (c_begin0 l dC dI ad cB bS bo mdc 1 H.size (by omega)) (va_cwS 2 hts gX3_doSees_X3_begin rfl rfl rfl hd_yX3_begin.2 ⟨Nat.le_of_ble_eq_true rfl, Nat.le_of_ble_eq_true rfl⟩) ⟨fun a U g mk q => by obtain ⟨q0, q1, qP, qK, qD, qhI_⟩ := q; exact ⟨q0, mvz g mk a q1, mvP g mk a qP, mvK g mk a qK, qD, qhI_.mv g mk a⟩, fun U hU hW => ⟨rfl, by rw [hU], by rw [hU]; exact hPc, va_K.moved hW.alike hKc, hDc.weaken (fun _ _ _ _ => trivial), hI_.call hS hU hW (fun q h => hFc q h)⟩⟩ rfl rfl hl.1 rfl (lv_room (Nat.le_of_ble_eq_true rfl)) dX3_doSees_2 ⟨Nat.le_of_ble_eq_true rfl, Nat.le_of_ble_eq_true rfl⟩) hS (fun q _ h => hFc q h) hFc (fun u tC H1 locs htC hvm hw_2 hB hz1 hk1 hS => ?_)
  obtain ⟨mdc9_3, aEl9_4, cEl9_5, sz_9_6, fEl9_7⟩ := u
  try dsimp only at hw_2 hB
  obtain ⟨hP1, hK1, hD1⟩ := hB
  rw [htC] at hP1
  have hK1 := va_K.moved hvm.symm hK1
  obtain ⟨hP, hD⟩ := va_join (wr := []) (w1 := [(zo1iri bo mdc9_3 aEl9_4 (nI sz_9_6)), (zaR aEl9_4 cEl9_5 10 fEl9_7)]) hP hD [0] [] rfl rfl (by decide) (by decide) hk1 hFc hP1 hD1
  have hK := (hK.sub (tys' := []) [] rfl).app hK1
  generalize H1 = H at hP hS ⊢
  have hP : va_P (dC, dI) vwCl [(zo1iri bo mdc9_3 aEl9_4 (nI sz_9_6)), (zaR aEl9_4 cEl9_5 10 fEl9_7)] H := hP
  have hD : va_D A [(zo1iri bo mdc9_3 aEl9_4 (nI sz_9_6)), (zaR aEl9_4 cEl9_5 10 fEl9_7)] := hD
  have hK : va_K (dC, dI) vwCl [(cEl9_5, .object "java/lang/Object")] s := hK
  refine W.widen (k := 1) (n := 10) (by omega) (by omega) ?_
  obtain ⟨e_8, hL_9⟩ := hw_2
  obtain rfl := (e_8).symm
  refine lv_iload_n hx hb dX3_doSees_5 rfl (lv_at hl 1 rfl) ?_
  refine lv_aload_n hx hb dX3_doSees_6 rfl (lv_at hl 0 rfl) ?_
  refine va_get (D := (dC, dI)) (ci := 5) (v := .int (nI i0)) (C := RX3) (T := TX3) (N := 4) hx hb hts kc_X3_doSees_X3_0_1 hown hZ.2.1 (hZ.P hS) 0 rfl rfl 1 (by decide) (hts (.fieldLink RX3 15 "MistHeaps$Heap" "number" "I") kc_X3_doSees_X3_0_0) (fun _ h9 => h9) rfl dX3_doSees_7 ?_
  refine lv_iadd hx hb dX3_doSees_10 ?_
  rw [hQ]
  have hP9 := hP.sub (ws' := [(zo1iri bo mdc9_3 aEl9_4 (nI 1)), (zaR aEl9_4 cEl9_5 10 fEl9_7)]) [0, 1] rfl
  have hD9 := hD.sub (ws' := [(zo1iri bo mdc9_3 aEl9_4 (nI 1)), (zaR aEl9_4 cEl9_5 10 fEl9_7)]) [0, 1] (by decide) rfl
  have hK9 := hK.sub (tys' := [(cEl9_5, .object "java/lang/Object")]) [0] rfl
  refine W.widen (k := 1) (n := 10) (by omega) (by omega) ?_
  exact W.iret (v := x + (nI i0)) hx hb hr (fun tQ htQ hWQ => ⟨⟨(x + (nI i0)), (mdc9_3, aEl9_4, cEl9_5, 1, fEl9_7), rfl, ⟨rfl, by omega, hL_9⟩, by rw [htQ]; exact hP9, va_K.moved hWQ.alike hK9, hD9⟩, hS.F htQ⟩) hS.2.2 dX3_doSees_11

theorem kc_X3_doGoes_X3_1_0 : (.fieldLink RX3 18 "MistHeaps$Heap" "v" "I" : Cond) ∈ wsX3_doGoes := kc_of 236 rfl rfl rfl
theorem kc_X3_doGoes_X3_1_1 : ∀ w ∈ wsX30, w ∈ wsX3_doGoes := fun w h => List.mem_cons_of_mem _ (gin_wsX30 w h)
set_option maxHeartbeats 4000000 in
set_option maxRecDepth 100000 in
theorem c_X3_doGoes_X3_1 (l : Launch) (dC : Nat → ClassId) (dI : Nat → Nat → Nat) (ad : Nat → Nat) (cB bS : Nat)    (bo : Nat) (aEl : Nat) (i0 : Nat) (sk : Int32) (sv : Int32) (scl : Int32) (x : Int32) (cEl : ClassId) (fEl : Nat → Option Nat) (a0 : Nat) (sz_ : Nat) (mdc : Int32) (tl : List Nat) (sz : Nat) (hsz : sz_ + 2 ≤ 10) (zL : okL ad fEl sz_ tl) : Met l yX3_doGoes wsX3_doGoes ({ frames := 4, cells := 0, slots := 0, locals := 87 } : Room) (va_Pc [.ref a0, .int x, .ref bo] (fun U => U.heap.size = sz ∧ va_P (dC, dI) vwCl [(zo1iri bo mdc aEl (nI sz_)), (zaR aEl cEl 10 fEl)] U.heap ∧ va_K (dC, dI) vwCl [(cEl, .object "java/lang/Object")] U ∧ va_D (fun _ => True) [(zo1iri bo mdc aEl (nI sz_)), (zaR aEl cEl 10 fEl)] ∧ Gi ad cB bS (va_A [(zo1iri bo mdc aEl (nI sz_)), (zaR aEl cEl 10 fEl)] sz) U ∧ Gb (va_A [(zo1iri bo mdc aEl (nI sz_)), (zaR aEl cEl 10 fEl)] sz) U ∧ Gw (va_A [(zo1iri bo mdc aEl (nI sz_)), (zaR aEl cEl 10 fEl)] sz) U ∧ Fz dC dI [(zo5iiii a0 sk (nI i0) sv scl)] [] (va_A [(zo1iri bo mdc aEl (nI sz_)), (zaR aEl cEl 10 fEl)] sz) U)) (va_Qi (fun (r : Int32) (u : (Int32) × (Nat) × (Nat → Option Nat)) => match u with | (mdc9, sz_9, fEl9) => r = (x + nI i0) - sv ∧ sz_9 = sz_ + 2 ∧ okL ad fEl9 sz_9 (tl ++ [2, 1])) (fun (u : (Int32) × (Nat) × (Nat → Option Nat)) (t : State) => match u with | (mdc9, sz_9, fEl9) => va_P (dC, dI) vwCl [(zo1iri bo mdc9 aEl (nI sz_9)), (zaR aEl cEl 10 fEl9)] t.heap ∧ va_K (dC, dI) vwCl [(cEl, .object "java/lang/Object")] t ∧ va_D (va_A [(zo1iri bo mdc aEl (nI sz_)), (zaR aEl cEl 10 fEl)] sz) [(zo1iri bo mdc9 aEl (nI sz_9)), (zaR aEl cEl 10 fEl9)]) (va_A [(zo1iri bo mdc aEl (nI sz_)), (zaR aEl cEl 10 fEl)] sz)) 0 0 (va_A [(zo1iri bo mdc aEl (nI sz_)), (zaR aEl cEl 10 fEl)] sz) := by
  refine met_ofQ (cc := cX3_doGoes) (maxL := 3) (ret := (some .int)) (by decide) rfl ?_
  intro p e s m args below meth c s₁ Q B hml hv hQ
  obtain ⟨rfl, hsz, hP, hK, hD0, hI_, hB_, hW_, hZ⟩ := hv
  have hx := B.exec
  have hb := B.bytes
  have hr := B.returns
  have hts := atoms_spec (ws := wsX3_doGoes) B.pre
  have hown : s.vm.findClass RX3 = some m.cls := findClass_of_methodNamed B.named
  have hlocks := B.notSynchronized
  subst hsz
  have hD := hD0.self (sz := s.heap.size)
  generalize hAe : va_A [(zo1iri bo mdc aEl (nI sz_)), (zaR aEl cEl 10 fEl)] s.heap.size = A at hD hQ hI_ hB_ hW_ hZ ⊢
  have hA : ∀ q : Nat, s.heap.size ≤ q → A q := fun q h => by rw [← hAe]; exact Or.inr h
  have hS : va_S A s.heap s.heap [] := va_S.rf
  have hl := lv_entry [.ref a0, .int x, .ref bo] (n := 3) (Nat.le_of_ble_eq_true rfl)
  rw [lg_entry_eq]
  generalize (lg_sl [.ref a0, .int x, .ref bo] ++ List.replicate (3 - (lg_sl [.ref a0, .int x, .ref bo]).length) Slot.unset).toArray = ls at hl ⊢
  generalize hag : ([.ref a0, .int x, .ref bo] : List Value).toArray = args at hts hQ ⊢
  have hl : lv_has ls 3 [(0, .ref a0), (1, .int x), (2, .ref bo)] := hl
  obtain ⟨H, hH⟩ : ∃ H : Heap, H = s.heap := ⟨_, rfl⟩
  rw [← hH] at hP
  rw [← hH]
  have hS : va_S A s.heap H [] := by rw [hH]; exact hS
  obtain ⟨locs, hlo⟩ : ∃ L : List Loc, L = [] := ⟨_, rfl⟩
  rw [← hlo] at hS
  rw [← hlo]
  clear hH hlo
  refine lv_iconst (v := 2) hx hb dX3_doGoes_0 (by decide) ?_
  refine lv_aload_n hx hb dX3_doGoes_1 rfl (lv_at hl 2 rfl) ?_
  have hPc := hP.sub (ws' := [(zo1iri bo mdc aEl (nI sz_)), (zaR aEl cEl 10 fEl)]) [0, 1] rfl
  have hDc := hD.sub (ws' := [(zo1iri bo mdc aEl (nI sz_)), (zaR aEl cEl 10 fEl)]) [0, 1] (by decide) rfl
  have hKc := hK.sub (tys' := [(cEl, .object "java/lang/Object")]) [0] rfl
  have hFc := va_free (wc := [(zo1iri bo mdc aEl (nI sz_)), (zaR aEl cEl 10 fEl)]) hD hS hA [0, 1] rfl
  refine va_callv (va_runS (As := [.int 2, .ref bo]) (rest := []) ⟨hx, hb, hml, hown, hts⟩ (c_begin1 l dC dI ad cB bS bo aEl 2 cEl fEl sz_ mdc tl H.size (by omega) (by omega) (zL)) (va_cwS 2 hts gX3_doGoes_X3_begin rfl rfl rfl hd_yX3_begin.2 ⟨Nat.le_of_ble_eq_true rfl, Nat.le_of_ble_eq_true rfl⟩) ⟨fun a U g mk q => by obtain ⟨q0, q1, qP, qK, qD, qhI_⟩ := q; exact ⟨q0, mvz g mk a q1, mvP g mk a qP, mvK g mk a qK, qD, qhI_.mv g mk a⟩, fun U hU hW => ⟨rfl, by rw [hU], by rw [hU]; exact hPc, va_K.moved hW.alike hKc, hDc.weaken (fun _ _ _ _ => trivial), hI_.call hS hU hW (fun q h => hFc q h)⟩⟩ rfl rfl hl.1 rfl (lv_room (Nat.le_of_ble_eq_true rfl)) dX3_doGoes_2 ⟨Nat.le_of_ble_eq_true rfl, Nat.le_of_ble_eq_true rfl⟩) hS (fun q _ h => hFc q h) hFc (fun u tC H1 locs htC hvm hw_2 hB hz1 hk1 hS => ?_)
  obtain ⟨mdc9_3, sz_9_4, fEl9_5⟩ := u
  try dsimp only at hw_2 hB
  obtain ⟨hP1, hK1, hD1⟩ := hB
  rw [htC] at hP1
  have hK1 := va_K.moved hvm.symm hK1
  obtain ⟨hP, hD⟩ := va_join (wr := []) (w1 := [(zo1iri bo mdc9_3 aEl (nI sz_9_4)), (zaR aEl cEl 10 fEl9_5)]) hP hD [0, 1] [] rfl rfl (by decide) (by decide) hk1 hFc hP1 hD1
  have hK := (hK.sub (tys' := []) [] rfl).app hK1
  generalize H1 = H at hP hS ⊢
  have hP : va_P (dC, dI) vwCl [(zo1iri bo mdc9_3 aEl (nI sz_9_4)), (zaR aEl cEl 10 fEl9_5)] H := hP
  have hD : va_D A [(zo1iri bo mdc9_3 aEl (nI sz_9_4)), (zaR aEl cEl 10 fEl9_5)] := hD
  have hK : va_K (dC, dI) vwCl [(cEl, .object "java/lang/Object")] s := hK
  obtain ⟨e_6, hL_7⟩ := hw_2
  obtain rfl := (e_6).symm
  refine lv_aload_n hx hb dX3_doGoes_5 rfl (lv_at hl 0 rfl) ?_
  refine lv_iload_n hx hb dX3_doGoes_6 rfl (lv_at hl 1 rfl) ?_
  refine lv_aload_n hx hb dX3_doGoes_7 rfl (lv_at hl 2 rfl) ?_
  have hPc := hP.sub (ws' := [(zo1iri bo mdc9_3 aEl (nI (sz_ + 1))), (zaR aEl cEl 10 fEl9_5)]) [0, 1] rfl
  have hDc := hD.sub (ws' := [(zo1iri bo mdc9_3 aEl (nI (sz_ + 1))), (zaR aEl cEl 10 fEl9_5)]) [0, 1] (by decide) rfl
  have hKc := hK.sub (tys' := [(cEl, .object "java/lang/Object")]) [0] rfl
  have hFc := va_free (wc := [(zo1iri bo mdc9_3 aEl (nI (sz_ + 1))), (zaR aEl cEl 10 fEl9_5)]) hD hS hA [0, 1] rfl
  refine va_calli (va_runV (As := [.int x, .ref bo]) (rest := []) ⟨hx, hb, hml, hown, hts⟩ (c_X3_doSees_X3_1 l dC dI ad cB bS    bo aEl i0 sk sv scl x cEl fEl9_5 a0 (sz_ + 1) mdc9_3 (tl ++ [2]) H.size (by omega) (hL_7)) (cwV 2 hts gX3_doGoes_X3_doSees rfl rfl rfl hd_yX3_doSees ⟨Nat.le_of_ble_eq_true rfl, Nat.le_of_ble_eq_true rfl⟩) ⟨fun a U g mk q => by obtain ⟨q0, q1, qP, qK, qD, qhI_, qhB_, qhW_, qhZ⟩ := q; exact ⟨q0, mvz g mk a q1, mvP g mk a qP, mvK g mk a qK, qD, qhI_.mv g mk a, qhB_.mv g mk a, qhW_.mv g mk a, qhZ.mv g mk a⟩, va_recv hZ.2.1 (hZ.P hS) (ci := 5) (q := (RX3, TX3, 4)) (q0 := 0) rfl rfl, fun U hU hW => ⟨rfl, by rw [hU], by rw [hU]; exact hPc, va_K.moved hW.alike hKc, hDc.weaken (fun _ _ _ _ => trivial), hI_.call hS hU hW (fun q h => hFc q h), hB_.call hS hU hW (fun q h => hFc q h), hW_.call hS hU hW (fun q h => hFc q h), (hZ.sub [0] [] rfl rfl).call hS hU hW (fun q h => hFc q h)⟩⟩ rfl rfl hl.1 rfl (lv_room (Nat.le_of_ble_eq_true rfl)) dX3_doGoes_8 ⟨Nat.le_of_ble_eq_true rfl, Nat.le_of_ble_eq_true rfl⟩) hS (fun q _ h => hFc q h) hFc (fun r_8 u tC H1 locs htC hvm hw_9 hB hz1 hk1 hS => ?_)
  obtain ⟨mdc9_10, sz_9_11, fEl9_12⟩ := u
  try dsimp only at hw_9 hB
  obtain ⟨hP1, hK1, hD1⟩ := hB
  rw [htC] at hP1
  have hK1 := va_K.moved hvm.symm hK1
  obtain ⟨hP, hD⟩ := va_join (wr := []) (w1 := [(zo1iri bo mdc9_10 aEl (nI sz_9_11)), (zaR aEl cEl 10 fEl9_12)]) hP hD [0, 1] [] rfl rfl (by decide) (by decide) hk1 hFc hP1 hD1
  have hK := (hK.sub (tys' := []) [] rfl).app hK1
  generalize H1 = H at hP hS ⊢
  have hP : va_P (dC, dI) vwCl [(zo1iri bo mdc9_10 aEl (nI sz_9_11)), (zaR aEl cEl 10 fEl9_12)] H := hP
  have hD : va_D A [(zo1iri bo mdc9_10 aEl (nI sz_9_11)), (zaR aEl cEl 10 fEl9_12)] := hD
  have hK : va_K (dC, dI) vwCl [(cEl, .object "java/lang/Object")] s := hK
  obtain ⟨er_13, e_14, hL_15⟩ := hw_9
  obtain rfl := (e_14).symm
  subst er_13
  refine lv_aload_n hx hb dX3_doGoes_11 rfl (lv_at hl 0 rfl) ?_
  refine va_get (D := (dC, dI)) (ci := 5) (v := .int sv) (C := RX3) (T := TX3) (N := 4) hx hb hts kc_X3_doGoes_X3_1_1 hown hZ.2.1 (hZ.P hS) 0 rfl rfl 2 (by decide) (hts (.fieldLink RX3 18 "MistHeaps$Heap" "v" "I") kc_X3_doGoes_X3_1_0) (fun _ h9 => h9) rfl dX3_doGoes_12 ?_
  refine lv_isub hx hb dX3_doGoes_15 ?_
  rw [hQ]
  have hP9 := hP.sub (ws' := [(zo1iri bo mdc9_10 aEl (nI ((sz_ + 1) + 1))), (zaR aEl cEl 10 fEl9_12)]) [0, 1] rfl
  have hD9 := hD.sub (ws' := [(zo1iri bo mdc9_10 aEl (nI ((sz_ + 1) + 1))), (zaR aEl cEl 10 fEl9_12)]) [0, 1] (by decide) rfl
  have hK9 := hK.sub (tys' := [(cEl, .object "java/lang/Object")]) [0] rfl
  exact W.iret (v := (x + nI i0) - sv) hx hb hr (fun tQ htQ hWQ => ⟨⟨((x + nI i0) - sv), (mdc9_10, ((sz_ + 1) + 1), fEl9_12), rfl, ⟨rfl, by omega, by have h9 := okL_as (hL_15); exact h9⟩, by rw [htQ]; exact hP9, va_K.moved hWQ.alike hK9, hD9⟩, hS.F htQ⟩) hS.2.2 dX3_doGoes_16

theorem kc_X3_doGoes_X3_0_0 : (.fieldLink RX3 18 "MistHeaps$Heap" "v" "I" : Cond) ∈ wsX3_doGoes := kc_of 236 rfl rfl rfl
theorem kc_X3_doGoes_X3_0_1 : ∀ w ∈ wsX30, w ∈ wsX3_doGoes := fun w h => List.mem_cons_of_mem _ (gin_wsX30 w h)
set_option maxHeartbeats 4000000 in
set_option maxRecDepth 100000 in
theorem c_X3_doGoes_X3_0 (l : Launch) (dC : Nat → ClassId) (dI : Nat → Nat → Nat) (ad : Nat → Nat) (cB bS : Nat)    (bo : Nat) (i0 : Nat) (sk : Int32) (sv : Int32) (scl : Int32) (x : Int32) (a0 : Nat) (mdc : Int32) (sz : Nat) : Met l yX3_doGoes wsX3_doGoes ({ frames := 6, cells := 1, slots := 10, locals := 122 } : Room) (va_Pc [.ref a0, .int x, .ref bo] (fun U => U.heap.size = sz ∧ va_P (dC, dI) vwCl [(zo1iri bo mdc bS 0)] U.heap ∧ va_K (dC, dI) vwCl [] U ∧ va_D (fun _ => True) [(zo1iri bo mdc bS 0)] ∧ Gi ad cB bS (va_A [(zo1iri bo mdc bS 0)] sz) U ∧ Gb (va_A [(zo1iri bo mdc bS 0)] sz) U ∧ Gw (va_A [(zo1iri bo mdc bS 0)] sz) U ∧ Fz dC dI [(zo5iiii a0 sk (nI i0) sv scl)] [] (va_A [(zo1iri bo mdc bS 0)] sz) U)) (va_Qi (fun (r : Int32) (u : (Int32) × (Nat) × (ClassId) × (Nat) × (Nat → Option Nat)) => match u with | (mdc9, aEl9, cEl9, sz_9, fEl9) => r = (x + nI i0) - sv ∧ sz_9 = 2 ∧ okL ad fEl9 sz_9 [2, 1]) (fun (u : (Int32) × (Nat) × (ClassId) × (Nat) × (Nat → Option Nat)) (t : State) => match u with | (mdc9, aEl9, cEl9, sz_9, fEl9) => va_P (dC, dI) vwCl [(zo1iri bo mdc9 aEl9 (nI sz_9)), (zaR aEl9 cEl9 10 fEl9)] t.heap ∧ va_K (dC, dI) vwCl [(cEl9, .object "java/lang/Object")] t ∧ va_D (va_A [(zo1iri bo mdc bS 0)] sz) [(zo1iri bo mdc9 aEl9 (nI sz_9)), (zaR aEl9 cEl9 10 fEl9)]) (va_A [(zo1iri bo mdc bS 0)] sz)) 1 10 (va_A [(zo1iri bo mdc bS 0)] sz) := by
  refine met_ofQ (cc := cX3_doGoes) (maxL := 3) (ret := (some .int)) (by decide) rfl ?_
  intro p e s m args below meth c s₁ Q B hml hv hQ
  obtain ⟨rfl, hsz, hP, hK, hD0, hI_, hB_, hW_, hZ⟩ := hv
  have hx := B.exec
  have hb := B.bytes
  have hr := B.returns
  have hts := atoms_spec (ws := wsX3_doGoes) B.pre
  have hown : s.vm.findClass RX3 = some m.cls := findClass_of_methodNamed B.named
  have hlocks := B.notSynchronized
  subst hsz
  have hD := hD0.self (sz := s.heap.size)
  generalize hAe : va_A [(zo1iri bo mdc bS 0)] s.heap.size = A at hD hQ hI_ hB_ hW_ hZ ⊢
  have hA : ∀ q : Nat, s.heap.size ≤ q → A q := fun q h => by rw [← hAe]; exact Or.inr h
  have hS : va_S A s.heap s.heap [] := va_S.rf
  have hl := lv_entry [.ref a0, .int x, .ref bo] (n := 3) (Nat.le_of_ble_eq_true rfl)
  rw [lg_entry_eq]
  generalize (lg_sl [.ref a0, .int x, .ref bo] ++ List.replicate (3 - (lg_sl [.ref a0, .int x, .ref bo]).length) Slot.unset).toArray = ls at hl ⊢
  generalize hag : ([.ref a0, .int x, .ref bo] : List Value).toArray = args at hts hQ ⊢
  have hl : lv_has ls 3 [(0, .ref a0), (1, .int x), (2, .ref bo)] := hl
  obtain ⟨H, hH⟩ : ∃ H : Heap, H = s.heap := ⟨_, rfl⟩
  rw [← hH] at hP
  rw [← hH]
  have hS : va_S A s.heap H [] := by rw [hH]; exact hS
  obtain ⟨locs, hlo⟩ : ∃ L : List Loc, L = [] := ⟨_, rfl⟩
  rw [← hlo] at hS
  rw [← hlo]
  clear hH hlo
  refine lv_iconst (v := 2) hx hb dX3_doGoes_0 (by decide) ?_
  refine lv_aload_n hx hb dX3_doGoes_1 rfl (lv_at hl 2 rfl) ?_
  have hPc := hP.sub (ws' := [(zo1iri bo mdc bS 0)]) [0] rfl
  have hDc := hD.sub (ws' := [(zo1iri bo mdc bS 0)]) [0] (by decide) rfl
  have hKc := hK.sub (tys' := []) [] rfl
  have hFc := va_free (wc := [(zo1iri bo mdc bS 0)]) hD hS hA [0] rfl
  refine va_callv (va_runS (As := [.int 2, .ref bo]) (rest := []) ⟨hx, hb, hml, hown, hts⟩ (c_begin0 l dC dI ad cB bS bo mdc 2 H.size (by omega)) (va_cwS 2 hts gX3_doGoes_X3_begin rfl rfl rfl hd_yX3_begin.2 ⟨Nat.le_of_ble_eq_true rfl, Nat.le_of_ble_eq_true rfl⟩) ⟨fun a U g mk q => by obtain ⟨q0, q1, qP, qK, qD, qhI_⟩ := q; exact ⟨q0, mvz g mk a q1, mvP g mk a qP, mvK g mk a qK, qD, qhI_.mv g mk a⟩, fun U hU hW => ⟨rfl, by rw [hU], by rw [hU]; exact hPc, va_K.moved hW.alike hKc, hDc.weaken (fun _ _ _ _ => trivial), hI_.call hS hU hW (fun q h => hFc q h)⟩⟩ rfl rfl hl.1 rfl (lv_room (Nat.le_of_ble_eq_true rfl)) dX3_doGoes_2 ⟨Nat.le_of_ble_eq_true rfl, Nat.le_of_ble_eq_true rfl⟩) hS (fun q _ h => hFc q h) hFc (fun u tC H1 locs htC hvm hw_2 hB hz1 hk1 hS => ?_)
  obtain ⟨mdc9_3, aEl9_4, cEl9_5, sz_9_6, fEl9_7⟩ := u
  try dsimp only at hw_2 hB
  obtain ⟨hP1, hK1, hD1⟩ := hB
  rw [htC] at hP1
  have hK1 := va_K.moved hvm.symm hK1
  obtain ⟨hP, hD⟩ := va_join (wr := []) (w1 := [(zo1iri bo mdc9_3 aEl9_4 (nI sz_9_6)), (zaR aEl9_4 cEl9_5 10 fEl9_7)]) hP hD [0] [] rfl rfl (by decide) (by decide) hk1 hFc hP1 hD1
  have hK := (hK.sub (tys' := []) [] rfl).app hK1
  generalize H1 = H at hP hS ⊢
  have hP : va_P (dC, dI) vwCl [(zo1iri bo mdc9_3 aEl9_4 (nI sz_9_6)), (zaR aEl9_4 cEl9_5 10 fEl9_7)] H := hP
  have hD : va_D A [(zo1iri bo mdc9_3 aEl9_4 (nI sz_9_6)), (zaR aEl9_4 cEl9_5 10 fEl9_7)] := hD
  have hK : va_K (dC, dI) vwCl [(cEl9_5, .object "java/lang/Object")] s := hK
  refine W.widen (k := 1) (n := 10) (by omega) (by omega) ?_
  obtain ⟨e_8, hL_9⟩ := hw_2
  obtain rfl := (e_8).symm
  refine lv_aload_n hx hb dX3_doGoes_5 rfl (lv_at hl 0 rfl) ?_
  refine lv_iload_n hx hb dX3_doGoes_6 rfl (lv_at hl 1 rfl) ?_
  refine lv_aload_n hx hb dX3_doGoes_7 rfl (lv_at hl 2 rfl) ?_
  have hPc := hP.sub (ws' := [(zo1iri bo mdc9_3 aEl9_4 (nI 1)), (zaR aEl9_4 cEl9_5 10 fEl9_7)]) [0, 1] rfl
  have hDc := hD.sub (ws' := [(zo1iri bo mdc9_3 aEl9_4 (nI 1)), (zaR aEl9_4 cEl9_5 10 fEl9_7)]) [0, 1] (by decide) rfl
  have hKc := hK.sub (tys' := [(cEl9_5, .object "java/lang/Object")]) [0] rfl
  have hFc := va_free (wc := [(zo1iri bo mdc9_3 aEl9_4 (nI 1)), (zaR aEl9_4 cEl9_5 10 fEl9_7)]) hD hS hA [0, 1] rfl
  refine va_calli (va_runV (As := [.int x, .ref bo]) (rest := []) ⟨hx, hb, hml, hown, hts⟩ (c_X3_doSees_X3_1 l dC dI ad cB bS    bo aEl9_4 i0 sk sv scl x cEl9_5 fEl9_7 a0 1 mdc9_3 ([2]) H.size (by omega) (hL_9)) (cwV 2 hts gX3_doGoes_X3_doSees rfl rfl rfl hd_yX3_doSees ⟨Nat.le_of_ble_eq_true rfl, Nat.le_of_ble_eq_true rfl⟩) ⟨fun a U g mk q => by obtain ⟨q0, q1, qP, qK, qD, qhI_, qhB_, qhW_, qhZ⟩ := q; exact ⟨q0, mvz g mk a q1, mvP g mk a qP, mvK g mk a qK, qD, qhI_.mv g mk a, qhB_.mv g mk a, qhW_.mv g mk a, qhZ.mv g mk a⟩, va_recv hZ.2.1 (hZ.P hS) (ci := 5) (q := (RX3, TX3, 4)) (q0 := 0) rfl rfl, fun U hU hW => ⟨rfl, by rw [hU], by rw [hU]; exact hPc, va_K.moved hW.alike hKc, hDc.weaken (fun _ _ _ _ => trivial), hI_.call hS hU hW (fun q h => hFc q h), hB_.call hS hU hW (fun q h => hFc q h), hW_.call hS hU hW (fun q h => hFc q h), (hZ.sub [0] [] rfl rfl).call hS hU hW (fun q h => hFc q h)⟩⟩ rfl rfl hl.1 rfl (lv_room (Nat.le_of_ble_eq_true rfl)) dX3_doGoes_8 ⟨Nat.le_of_ble_eq_true rfl, Nat.le_of_ble_eq_true rfl⟩) hS (fun q _ h => hFc q h) hFc (fun r_10 u tC H1 locs htC hvm hw_11 hB hz1 hk1 hS => ?_)
  obtain ⟨mdc9_12, sz_9_13, fEl9_14⟩ := u
  try dsimp only at hw_11 hB
  obtain ⟨hP1, hK1, hD1⟩ := hB
  rw [htC] at hP1
  have hK1 := va_K.moved hvm.symm hK1
  obtain ⟨hP, hD⟩ := va_join (wr := []) (w1 := [(zo1iri bo mdc9_12 aEl9_4 (nI sz_9_13)), (zaR aEl9_4 cEl9_5 10 fEl9_14)]) hP hD [0, 1] [] rfl rfl (by decide) (by decide) hk1 hFc hP1 hD1
  have hK := (hK.sub (tys' := []) [] rfl).app hK1
  generalize H1 = H at hP hS ⊢
  have hP : va_P (dC, dI) vwCl [(zo1iri bo mdc9_12 aEl9_4 (nI sz_9_13)), (zaR aEl9_4 cEl9_5 10 fEl9_14)] H := hP
  have hD : va_D A [(zo1iri bo mdc9_12 aEl9_4 (nI sz_9_13)), (zaR aEl9_4 cEl9_5 10 fEl9_14)] := hD
  have hK : va_K (dC, dI) vwCl [(cEl9_5, .object "java/lang/Object")] s := hK
  obtain ⟨er_15, e_16, hL_17⟩ := hw_11
  obtain rfl := (e_16).symm
  subst er_15
  refine lv_aload_n hx hb dX3_doGoes_11 rfl (lv_at hl 0 rfl) ?_
  refine va_get (D := (dC, dI)) (ci := 5) (v := .int sv) (C := RX3) (T := TX3) (N := 4) hx hb hts kc_X3_doGoes_X3_0_1 hown hZ.2.1 (hZ.P hS) 0 rfl rfl 2 (by decide) (hts (.fieldLink RX3 18 "MistHeaps$Heap" "v" "I") kc_X3_doGoes_X3_0_0) (fun _ h9 => h9) rfl dX3_doGoes_12 ?_
  refine lv_isub hx hb dX3_doGoes_15 ?_
  rw [hQ]
  have hP9 := hP.sub (ws' := [(zo1iri bo mdc9_12 aEl9_4 (nI (1 + 1))), (zaR aEl9_4 cEl9_5 10 fEl9_14)]) [0, 1] rfl
  have hD9 := hD.sub (ws' := [(zo1iri bo mdc9_12 aEl9_4 (nI (1 + 1))), (zaR aEl9_4 cEl9_5 10 fEl9_14)]) [0, 1] (by decide) rfl
  have hK9 := hK.sub (tys' := [(cEl9_5, .object "java/lang/Object")]) [0] rfl
  refine W.widen (k := 1) (n := 10) (by omega) (by omega) ?_
  exact W.iret (v := (x + nI i0) - sv) hx hb hr (fun tQ htQ hWQ => ⟨⟨((x + nI i0) - sv), (mdc9_12, aEl9_4, cEl9_5, (1 + 1), fEl9_14), rfl, ⟨rfl, by omega, hL_17⟩, by rw [htQ]; exact hP9, va_K.moved hWQ.alike hK9, hD9⟩, hS.F htQ⟩) hS.2.2 dX3_doGoes_16

set_option maxHeartbeats 4000000 in
set_option maxRecDepth 100000 in
theorem c_X3_doLooks_X3_1 (l : Launch) (dC : Nat → ClassId) (dI : Nat → Nat → Nat) (ad : Nat → Nat) (cB bS : Nat)    (bo : Nat) (aEl : Nat) (i0 : Nat) (sk : Int32) (sv : Int32) (scl : Int32) (x : Int32) (cEl : ClassId) (fEl : Nat → Option Nat) (a0 : Nat) (sz_ : Nat) (mdc : Int32) (tl : List Nat) (sz : Nat) (hsz : sz_ + 3 ≤ 10) (zL : okL ad fEl sz_ tl) : Met l yX3_doLooks wsX3_doLooks ({ frames := 5, cells := 0, slots := 0, locals := 109 } : Room) (va_Pc [.ref a0, .int x, .ref bo] (fun U => U.heap.size = sz ∧ va_P (dC, dI) vwCl [(zo1iri bo mdc aEl (nI sz_)), (zaR aEl cEl 10 fEl)] U.heap ∧ va_K (dC, dI) vwCl [(cEl, .object "java/lang/Object")] U ∧ va_D (fun _ => True) [(zo1iri bo mdc aEl (nI sz_)), (zaR aEl cEl 10 fEl)] ∧ Gi ad cB bS (va_A [(zo1iri bo mdc aEl (nI sz_)), (zaR aEl cEl 10 fEl)] sz) U ∧ Gb (va_A [(zo1iri bo mdc aEl (nI sz_)), (zaR aEl cEl 10 fEl)] sz) U ∧ Gw (va_A [(zo1iri bo mdc aEl (nI sz_)), (zaR aEl cEl 10 fEl)] sz) U ∧ Fz dC dI [(zo5iiii a0 sk (nI i0) sv scl)] [] (va_A [(zo1iri bo mdc aEl (nI sz_)), (zaR aEl cEl 10 fEl)] sz) U)) (va_Qi (fun (r : Int32) (u : (Int32) × (Nat) × (Nat → Option Nat)) => match u with | (mdc9, sz_9, fEl9) => r = ((x + nI i0) - sv) * 2 ∧ sz_9 = sz_ + 3 ∧ okL ad fEl9 sz_9 (tl ++ [3, 2, 1])) (fun (u : (Int32) × (Nat) × (Nat → Option Nat)) (t : State) => match u with | (mdc9, sz_9, fEl9) => va_P (dC, dI) vwCl [(zo1iri bo mdc9 aEl (nI sz_9)), (zaR aEl cEl 10 fEl9)] t.heap ∧ va_K (dC, dI) vwCl [(cEl, .object "java/lang/Object")] t ∧ va_D (va_A [(zo1iri bo mdc aEl (nI sz_)), (zaR aEl cEl 10 fEl)] sz) [(zo1iri bo mdc9 aEl (nI sz_9)), (zaR aEl cEl 10 fEl9)]) (va_A [(zo1iri bo mdc aEl (nI sz_)), (zaR aEl cEl 10 fEl)] sz)) 0 0 (va_A [(zo1iri bo mdc aEl (nI sz_)), (zaR aEl cEl 10 fEl)] sz) := by
  refine met_ofQ (cc := cX3_doLooks) (maxL := 3) (ret := (some .int)) (by decide) rfl ?_
  intro p e s m args below meth c s₁ Q B hml hv hQ
  obtain ⟨rfl, hsz, hP, hK, hD0, hI_, hB_, hW_, hZ⟩ := hv
  have hx := B.exec
  have hb := B.bytes
  have hr := B.returns
  have hts := atoms_spec (ws := wsX3_doLooks) B.pre
  have hown : s.vm.findClass RX3 = some m.cls := findClass_of_methodNamed B.named
  have hlocks := B.notSynchronized
  subst hsz
  have hD := hD0.self (sz := s.heap.size)
  generalize hAe : va_A [(zo1iri bo mdc aEl (nI sz_)), (zaR aEl cEl 10 fEl)] s.heap.size = A at hD hQ hI_ hB_ hW_ hZ ⊢
  have hA : ∀ q : Nat, s.heap.size ≤ q → A q := fun q h => by rw [← hAe]; exact Or.inr h
  have hS : va_S A s.heap s.heap [] := va_S.rf
  have hl := lv_entry [.ref a0, .int x, .ref bo] (n := 3) (Nat.le_of_ble_eq_true rfl)
  rw [lg_entry_eq]
  generalize (lg_sl [.ref a0, .int x, .ref bo] ++ List.replicate (3 - (lg_sl [.ref a0, .int x, .ref bo]).length) Slot.unset).toArray = ls at hl ⊢
  generalize hag : ([.ref a0, .int x, .ref bo] : List Value).toArray = args at hts hQ ⊢
  have hl : lv_has ls 3 [(0, .ref a0), (1, .int x), (2, .ref bo)] := hl
  obtain ⟨H, hH⟩ : ∃ H : Heap, H = s.heap := ⟨_, rfl⟩
  rw [← hH] at hP
  rw [← hH]
  have hS : va_S A s.heap H [] := by rw [hH]; exact hS
  obtain ⟨locs, hlo⟩ : ∃ L : List Loc, L = [] := ⟨_, rfl⟩
  rw [← hlo] at hS
  rw [← hlo]
  clear hH hlo
  refine lv_iconst (v := 3) hx hb dX3_doLooks_0 (by decide) ?_
  refine lv_aload_n hx hb dX3_doLooks_1 rfl (lv_at hl 2 rfl) ?_
  have hPc := hP.sub (ws' := [(zo1iri bo mdc aEl (nI sz_)), (zaR aEl cEl 10 fEl)]) [0, 1] rfl
  have hDc := hD.sub (ws' := [(zo1iri bo mdc aEl (nI sz_)), (zaR aEl cEl 10 fEl)]) [0, 1] (by decide) rfl
  have hKc := hK.sub (tys' := [(cEl, .object "java/lang/Object")]) [0] rfl
  have hFc := va_free (wc := [(zo1iri bo mdc aEl (nI sz_)), (zaR aEl cEl 10 fEl)]) hD hS hA [0, 1] rfl
  refine va_callv (va_runS (As := [.int 3, .ref bo]) (rest := []) ⟨hx, hb, hml, hown, hts⟩ (c_begin1 l dC dI ad cB bS bo aEl 3 cEl fEl sz_ mdc tl H.size (by omega) (by omega) (zL)) (va_cwS 2 hts gX3_doLooks_X3_begin rfl rfl rfl hd_yX3_begin.2 ⟨Nat.le_of_ble_eq_true rfl, Nat.le_of_ble_eq_true rfl⟩) ⟨fun a U g mk q => by obtain ⟨q0, q1, qP, qK, qD, qhI_⟩ := q; exact ⟨q0, mvz g mk a q1, mvP g mk a qP, mvK g mk a qK, qD, qhI_.mv g mk a⟩, fun U hU hW => ⟨rfl, by rw [hU], by rw [hU]; exact hPc, va_K.moved hW.alike hKc, hDc.weaken (fun _ _ _ _ => trivial), hI_.call hS hU hW (fun q h => hFc q h)⟩⟩ rfl rfl hl.1 rfl (lv_room (Nat.le_of_ble_eq_true rfl)) dX3_doLooks_2 ⟨Nat.le_of_ble_eq_true rfl, Nat.le_of_ble_eq_true rfl⟩) hS (fun q _ h => hFc q h) hFc (fun u tC H1 locs htC hvm hw_2 hB hz1 hk1 hS => ?_)
  obtain ⟨mdc9_3, sz_9_4, fEl9_5⟩ := u
  try dsimp only at hw_2 hB
  obtain ⟨hP1, hK1, hD1⟩ := hB
  rw [htC] at hP1
  have hK1 := va_K.moved hvm.symm hK1
  obtain ⟨hP, hD⟩ := va_join (wr := []) (w1 := [(zo1iri bo mdc9_3 aEl (nI sz_9_4)), (zaR aEl cEl 10 fEl9_5)]) hP hD [0, 1] [] rfl rfl (by decide) (by decide) hk1 hFc hP1 hD1
  have hK := (hK.sub (tys' := []) [] rfl).app hK1
  generalize H1 = H at hP hS ⊢
  have hP : va_P (dC, dI) vwCl [(zo1iri bo mdc9_3 aEl (nI sz_9_4)), (zaR aEl cEl 10 fEl9_5)] H := hP
  have hD : va_D A [(zo1iri bo mdc9_3 aEl (nI sz_9_4)), (zaR aEl cEl 10 fEl9_5)] := hD
  have hK : va_K (dC, dI) vwCl [(cEl, .object "java/lang/Object")] s := hK
  obtain ⟨e_6, hL_7⟩ := hw_2
  obtain rfl := (e_6).symm
  refine lv_aload_n hx hb dX3_doLooks_5 rfl (lv_at hl 0 rfl) ?_
  refine lv_iload_n hx hb dX3_doLooks_6 rfl (lv_at hl 1 rfl) ?_
  refine lv_aload_n hx hb dX3_doLooks_7 rfl (lv_at hl 2 rfl) ?_
  have hPc := hP.sub (ws' := [(zo1iri bo mdc9_3 aEl (nI (sz_ + 1))), (zaR aEl cEl 10 fEl9_5)]) [0, 1] rfl
  have hDc := hD.sub (ws' := [(zo1iri bo mdc9_3 aEl (nI (sz_ + 1))), (zaR aEl cEl 10 fEl9_5)]) [0, 1] (by decide) rfl
  have hKc := hK.sub (tys' := [(cEl, .object "java/lang/Object")]) [0] rfl
  have hFc := va_free (wc := [(zo1iri bo mdc9_3 aEl (nI (sz_ + 1))), (zaR aEl cEl 10 fEl9_5)]) hD hS hA [0, 1] rfl
  refine va_calli (va_runV (As := [.int x, .ref bo]) (rest := []) ⟨hx, hb, hml, hown, hts⟩ (c_X3_doGoes_X3_1 l dC dI ad cB bS    bo aEl i0 sk sv scl x cEl fEl9_5 a0 (sz_ + 1) mdc9_3 (tl ++ [3]) H.size (by omega) (hL_7)) (cwV 2 hts gX3_doLooks_X3_doGoes rfl rfl rfl hd_yX3_doGoes ⟨Nat.le_of_ble_eq_true rfl, Nat.le_of_ble_eq_true rfl⟩) ⟨fun a U g mk q => by obtain ⟨q0, q1, qP, qK, qD, qhI_, qhB_, qhW_, qhZ⟩ := q; exact ⟨q0, mvz g mk a q1, mvP g mk a qP, mvK g mk a qK, qD, qhI_.mv g mk a, qhB_.mv g mk a, qhW_.mv g mk a, qhZ.mv g mk a⟩, va_recv hZ.2.1 (hZ.P hS) (ci := 5) (q := (RX3, TX3, 4)) (q0 := 0) rfl rfl, fun U hU hW => ⟨rfl, by rw [hU], by rw [hU]; exact hPc, va_K.moved hW.alike hKc, hDc.weaken (fun _ _ _ _ => trivial), hI_.call hS hU hW (fun q h => hFc q h), hB_.call hS hU hW (fun q h => hFc q h), hW_.call hS hU hW (fun q h => hFc q h), (hZ.sub [0] [] rfl rfl).call hS hU hW (fun q h => hFc q h)⟩⟩ rfl rfl hl.1 rfl (lv_room (Nat.le_of_ble_eq_true rfl)) dX3_doLooks_8 ⟨Nat.le_of_ble_eq_true rfl, Nat.le_of_ble_eq_true rfl⟩) hS (fun q _ h => hFc q h) hFc (fun r_8 u tC H1 locs htC hvm hw_9 hB hz1 hk1 hS => ?_)
  obtain ⟨mdc9_10, sz_9_11, fEl9_12⟩ := u
  try dsimp only at hw_9 hB
  obtain ⟨hP1, hK1, hD1⟩ := hB
  rw [htC] at hP1
  have hK1 := va_K.moved hvm.symm hK1
  obtain ⟨hP, hD⟩ := va_join (wr := []) (w1 := [(zo1iri bo mdc9_10 aEl (nI sz_9_11)), (zaR aEl cEl 10 fEl9_12)]) hP hD [0, 1] [] rfl rfl (by decide) (by decide) hk1 hFc hP1 hD1
  have hK := (hK.sub (tys' := []) [] rfl).app hK1
  generalize H1 = H at hP hS ⊢
  have hP : va_P (dC, dI) vwCl [(zo1iri bo mdc9_10 aEl (nI sz_9_11)), (zaR aEl cEl 10 fEl9_12)] H := hP
  have hD : va_D A [(zo1iri bo mdc9_10 aEl (nI sz_9_11)), (zaR aEl cEl 10 fEl9_12)] := hD
  have hK : va_K (dC, dI) vwCl [(cEl, .object "java/lang/Object")] s := hK
  obtain ⟨er_13, e_14, hL_15⟩ := hw_9
  obtain rfl := (e_14).symm
  subst er_13
  refine lv_iconst (v := 2) hx hb dX3_doLooks_11 (by decide) ?_
  refine lv_imul hx hb dX3_doLooks_12 ?_
  rw [hQ]
  have hP9 := hP.sub (ws' := [(zo1iri bo mdc9_10 aEl (nI ((sz_ + 1) + 2))), (zaR aEl cEl 10 fEl9_12)]) [0, 1] rfl
  have hD9 := hD.sub (ws' := [(zo1iri bo mdc9_10 aEl (nI ((sz_ + 1) + 2))), (zaR aEl cEl 10 fEl9_12)]) [0, 1] (by decide) rfl
  have hK9 := hK.sub (tys' := [(cEl, .object "java/lang/Object")]) [0] rfl
  exact W.iret (v := ((x + nI i0) - sv) * 2) hx hb hr (fun tQ htQ hWQ => ⟨⟨(((x + nI i0) - sv) * 2), (mdc9_10, ((sz_ + 1) + 2), fEl9_12), rfl, ⟨rfl, by omega, by have h9 := okL_as (hL_15); exact h9⟩, by rw [htQ]; exact hP9, va_K.moved hWQ.alike hK9, hD9⟩, hS.F htQ⟩) hS.2.2 dX3_doLooks_13

set_option maxHeartbeats 4000000 in
set_option maxRecDepth 100000 in
theorem c_X3_doLooks_X3_0 (l : Launch) (dC : Nat → ClassId) (dI : Nat → Nat → Nat) (ad : Nat → Nat) (cB bS : Nat)    (bo : Nat) (i0 : Nat) (sk : Int32) (sv : Int32) (scl : Int32) (x : Int32) (a0 : Nat) (mdc : Int32) (sz : Nat) : Met l yX3_doLooks wsX3_doLooks ({ frames := 6, cells := 1, slots := 10, locals := 122 } : Room) (va_Pc [.ref a0, .int x, .ref bo] (fun U => U.heap.size = sz ∧ va_P (dC, dI) vwCl [(zo1iri bo mdc bS 0)] U.heap ∧ va_K (dC, dI) vwCl [] U ∧ va_D (fun _ => True) [(zo1iri bo mdc bS 0)] ∧ Gi ad cB bS (va_A [(zo1iri bo mdc bS 0)] sz) U ∧ Gb (va_A [(zo1iri bo mdc bS 0)] sz) U ∧ Gw (va_A [(zo1iri bo mdc bS 0)] sz) U ∧ Fz dC dI [(zo5iiii a0 sk (nI i0) sv scl)] [] (va_A [(zo1iri bo mdc bS 0)] sz) U)) (va_Qi (fun (r : Int32) (u : (Int32) × (Nat) × (ClassId) × (Nat) × (Nat → Option Nat)) => match u with | (mdc9, aEl9, cEl9, sz_9, fEl9) => r = ((x + nI i0) - sv) * 2 ∧ sz_9 = 3 ∧ okL ad fEl9 sz_9 [3, 2, 1]) (fun (u : (Int32) × (Nat) × (ClassId) × (Nat) × (Nat → Option Nat)) (t : State) => match u with | (mdc9, aEl9, cEl9, sz_9, fEl9) => va_P (dC, dI) vwCl [(zo1iri bo mdc9 aEl9 (nI sz_9)), (zaR aEl9 cEl9 10 fEl9)] t.heap ∧ va_K (dC, dI) vwCl [(cEl9, .object "java/lang/Object")] t ∧ va_D (va_A [(zo1iri bo mdc bS 0)] sz) [(zo1iri bo mdc9 aEl9 (nI sz_9)), (zaR aEl9 cEl9 10 fEl9)]) (va_A [(zo1iri bo mdc bS 0)] sz)) 1 10 (va_A [(zo1iri bo mdc bS 0)] sz) := by
  refine met_ofQ (cc := cX3_doLooks) (maxL := 3) (ret := (some .int)) (by decide) rfl ?_
  intro p e s m args below meth c s₁ Q B hml hv hQ
  obtain ⟨rfl, hsz, hP, hK, hD0, hI_, hB_, hW_, hZ⟩ := hv
  have hx := B.exec
  have hb := B.bytes
  have hr := B.returns
  have hts := atoms_spec (ws := wsX3_doLooks) B.pre
  have hown : s.vm.findClass RX3 = some m.cls := findClass_of_methodNamed B.named
  have hlocks := B.notSynchronized
  subst hsz
  have hD := hD0.self (sz := s.heap.size)
  generalize hAe : va_A [(zo1iri bo mdc bS 0)] s.heap.size = A at hD hQ hI_ hB_ hW_ hZ ⊢
  have hA : ∀ q : Nat, s.heap.size ≤ q → A q := fun q h => by rw [← hAe]; exact Or.inr h
  have hS : va_S A s.heap s.heap [] := va_S.rf
  have hl := lv_entry [.ref a0, .int x, .ref bo] (n := 3) (Nat.le_of_ble_eq_true rfl)
  rw [lg_entry_eq]
  generalize (lg_sl [.ref a0, .int x, .ref bo] ++ List.replicate (3 - (lg_sl [.ref a0, .int x, .ref bo]).length) Slot.unset).toArray = ls at hl ⊢
  generalize hag : ([.ref a0, .int x, .ref bo] : List Value).toArray = args at hts hQ ⊢
  have hl : lv_has ls 3 [(0, .ref a0), (1, .int x), (2, .ref bo)] := hl
  obtain ⟨H, hH⟩ : ∃ H : Heap, H = s.heap := ⟨_, rfl⟩
  rw [← hH] at hP
  rw [← hH]
  have hS : va_S A s.heap H [] := by rw [hH]; exact hS
  obtain ⟨locs, hlo⟩ : ∃ L : List Loc, L = [] := ⟨_, rfl⟩
  rw [← hlo] at hS
  rw [← hlo]
  clear hH hlo
  refine lv_iconst (v := 3) hx hb dX3_doLooks_0 (by decide) ?_
  refine lv_aload_n hx hb dX3_doLooks_1 rfl (lv_at hl 2 rfl) ?_
  have hPc := hP.sub (ws' := [(zo1iri bo mdc bS 0)]) [0] rfl
  have hDc := hD.sub (ws' := [(zo1iri bo mdc bS 0)]) [0] (by decide) rfl
  have hKc := hK.sub (tys' := []) [] rfl
  have hFc := va_free (wc := [(zo1iri bo mdc bS 0)]) hD hS hA [0] rfl
  refine va_callv (va_runS (As := [.int 3, .ref bo]) (rest := []) ⟨hx, hb, hml, hown, hts⟩ (c_begin0 l dC dI ad cB bS bo mdc 3 H.size (by omega)) (va_cwS 2 hts gX3_doLooks_X3_begin rfl rfl rfl hd_yX3_begin.2 ⟨Nat.le_of_ble_eq_true rfl, Nat.le_of_ble_eq_true rfl⟩) ⟨fun a U g mk q => by obtain ⟨q0, q1, qP, qK, qD, qhI_⟩ := q; exact ⟨q0, mvz g mk a q1, mvP g mk a qP, mvK g mk a qK, qD, qhI_.mv g mk a⟩, fun U hU hW => ⟨rfl, by rw [hU], by rw [hU]; exact hPc, va_K.moved hW.alike hKc, hDc.weaken (fun _ _ _ _ => trivial), hI_.call hS hU hW (fun q h => hFc q h)⟩⟩ rfl rfl hl.1 rfl (lv_room (Nat.le_of_ble_eq_true rfl)) dX3_doLooks_2 ⟨Nat.le_of_ble_eq_true rfl, Nat.le_of_ble_eq_true rfl⟩) hS (fun q _ h => hFc q h) hFc (fun u tC H1 locs htC hvm hw_2 hB hz1 hk1 hS => ?_)
  obtain ⟨mdc9_3, aEl9_4, cEl9_5, sz_9_6, fEl9_7⟩ := u
  try dsimp only at hw_2 hB
  obtain ⟨hP1, hK1, hD1⟩ := hB
  rw [htC] at hP1
  have hK1 := va_K.moved hvm.symm hK1
  obtain ⟨hP, hD⟩ := va_join (wr := []) (w1 := [(zo1iri bo mdc9_3 aEl9_4 (nI sz_9_6)), (zaR aEl9_4 cEl9_5 10 fEl9_7)]) hP hD [0] [] rfl rfl (by decide) (by decide) hk1 hFc hP1 hD1
  have hK := (hK.sub (tys' := []) [] rfl).app hK1
  generalize H1 = H at hP hS ⊢
  have hP : va_P (dC, dI) vwCl [(zo1iri bo mdc9_3 aEl9_4 (nI sz_9_6)), (zaR aEl9_4 cEl9_5 10 fEl9_7)] H := hP
  have hD : va_D A [(zo1iri bo mdc9_3 aEl9_4 (nI sz_9_6)), (zaR aEl9_4 cEl9_5 10 fEl9_7)] := hD
  have hK : va_K (dC, dI) vwCl [(cEl9_5, .object "java/lang/Object")] s := hK
  refine W.widen (k := 1) (n := 10) (by omega) (by omega) ?_
  obtain ⟨e_8, hL_9⟩ := hw_2
  obtain rfl := (e_8).symm
  refine lv_aload_n hx hb dX3_doLooks_5 rfl (lv_at hl 0 rfl) ?_
  refine lv_iload_n hx hb dX3_doLooks_6 rfl (lv_at hl 1 rfl) ?_
  refine lv_aload_n hx hb dX3_doLooks_7 rfl (lv_at hl 2 rfl) ?_
  have hPc := hP.sub (ws' := [(zo1iri bo mdc9_3 aEl9_4 (nI 1)), (zaR aEl9_4 cEl9_5 10 fEl9_7)]) [0, 1] rfl
  have hDc := hD.sub (ws' := [(zo1iri bo mdc9_3 aEl9_4 (nI 1)), (zaR aEl9_4 cEl9_5 10 fEl9_7)]) [0, 1] (by decide) rfl
  have hKc := hK.sub (tys' := [(cEl9_5, .object "java/lang/Object")]) [0] rfl
  have hFc := va_free (wc := [(zo1iri bo mdc9_3 aEl9_4 (nI 1)), (zaR aEl9_4 cEl9_5 10 fEl9_7)]) hD hS hA [0, 1] rfl
  refine va_calli (va_runV (As := [.int x, .ref bo]) (rest := []) ⟨hx, hb, hml, hown, hts⟩ (c_X3_doGoes_X3_1 l dC dI ad cB bS    bo aEl9_4 i0 sk sv scl x cEl9_5 fEl9_7 a0 1 mdc9_3 ([3]) H.size (by omega) (hL_9)) (cwV 2 hts gX3_doLooks_X3_doGoes rfl rfl rfl hd_yX3_doGoes ⟨Nat.le_of_ble_eq_true rfl, Nat.le_of_ble_eq_true rfl⟩) ⟨fun a U g mk q => by obtain ⟨q0, q1, qP, qK, qD, qhI_, qhB_, qhW_, qhZ⟩ := q; exact ⟨q0, mvz g mk a q1, mvP g mk a qP, mvK g mk a qK, qD, qhI_.mv g mk a, qhB_.mv g mk a, qhW_.mv g mk a, qhZ.mv g mk a⟩, va_recv hZ.2.1 (hZ.P hS) (ci := 5) (q := (RX3, TX3, 4)) (q0 := 0) rfl rfl, fun U hU hW => ⟨rfl, by rw [hU], by rw [hU]; exact hPc, va_K.moved hW.alike hKc, hDc.weaken (fun _ _ _ _ => trivial), hI_.call hS hU hW (fun q h => hFc q h), hB_.call hS hU hW (fun q h => hFc q h), hW_.call hS hU hW (fun q h => hFc q h), (hZ.sub [0] [] rfl rfl).call hS hU hW (fun q h => hFc q h)⟩⟩ rfl rfl hl.1 rfl (lv_room (Nat.le_of_ble_eq_true rfl)) dX3_doLooks_8 ⟨Nat.le_of_ble_eq_true rfl, Nat.le_of_ble_eq_true rfl⟩) hS (fun q _ h => hFc q h) hFc (fun r_10 u tC H1 locs htC hvm hw_11 hB hz1 hk1 hS => ?_)
  obtain ⟨mdc9_12, sz_9_13, fEl9_14⟩ := u
  try dsimp only at hw_11 hB
  obtain ⟨hP1, hK1, hD1⟩ := hB
  rw [htC] at hP1
  have hK1 := va_K.moved hvm.symm hK1
  obtain ⟨hP, hD⟩ := va_join (wr := []) (w1 := [(zo1iri bo mdc9_12 aEl9_4 (nI sz_9_13)), (zaR aEl9_4 cEl9_5 10 fEl9_14)]) hP hD [0, 1] [] rfl rfl (by decide) (by decide) hk1 hFc hP1 hD1
  have hK := (hK.sub (tys' := []) [] rfl).app hK1
  generalize H1 = H at hP hS ⊢
  have hP : va_P (dC, dI) vwCl [(zo1iri bo mdc9_12 aEl9_4 (nI sz_9_13)), (zaR aEl9_4 cEl9_5 10 fEl9_14)] H := hP
  have hD : va_D A [(zo1iri bo mdc9_12 aEl9_4 (nI sz_9_13)), (zaR aEl9_4 cEl9_5 10 fEl9_14)] := hD
  have hK : va_K (dC, dI) vwCl [(cEl9_5, .object "java/lang/Object")] s := hK
  obtain ⟨er_15, e_16, hL_17⟩ := hw_11
  obtain rfl := (e_16).symm
  subst er_15
  refine lv_iconst (v := 2) hx hb dX3_doLooks_11 (by decide) ?_
  refine lv_imul hx hb dX3_doLooks_12 ?_
  rw [hQ]
  have hP9 := hP.sub (ws' := [(zo1iri bo mdc9_12 aEl9_4 (nI (1 + 2))), (zaR aEl9_4 cEl9_5 10 fEl9_14)]) [0, 1] rfl
  have hD9 := hD.sub (ws' := [(zo1iri bo mdc9_12 aEl9_4 (nI (1 + 2))), (zaR aEl9_4 cEl9_5 10 fEl9_14)]) [0, 1] (by decide) rfl
  have hK9 := hK.sub (tys' := [(cEl9_5, .object "java/lang/Object")]) [0] rfl
  refine W.widen (k := 1) (n := 10) (by omega) (by omega) ?_
  exact W.iret (v := ((x + nI i0) - sv) * 2) hx hb hr (fun tQ htQ hWQ => ⟨⟨(((x + nI i0) - sv) * 2), (mdc9_12, aEl9_4, cEl9_5, (1 + 2), fEl9_14), rfl, ⟨rfl, by omega, hL_17⟩, by rw [htQ]; exact hP9, va_K.moved hWQ.alike hK9, hD9⟩, hS.F htQ⟩) hS.2.2 dX3_doLooks_13

theorem kc_X3_doSees_X4_1_0 : (.fieldLink RX3 15 "MistHeaps$Heap" "number" "I" : Cond) ∈ wsX3_doSees := kc_of 231 rfl rfl rfl
theorem kc_X3_doSees_X4_1_1 : ∀ w ∈ wsX40, w ∈ wsX3_doSees := fun w h => List.mem_cons_of_mem _ (gin_wsX40 w h)
set_option maxHeartbeats 4000000 in
set_option maxRecDepth 100000 in
theorem c_X3_doSees_X4_1 (l : Launch) (dC : Nat → ClassId) (dI : Nat → Nat → Nat) (ad : Nat → Nat) (cB bS : Nat)    (bo : Nat) (aEl : Nat) (i0 : Nat) (sk : Int32) (sv : Int32) (scl : Int32) (x : Int32) (cEl : ClassId) (fEl : Nat → Option Nat) (a0 : Nat) (sz_ : Nat) (mdc : Int32) (tl : List Nat) (sz : Nat) (hsz : sz_ + 1 ≤ 10) (zL : okL ad fEl sz_ tl) : Met l yX3_doSees wsX3_doSees ({ frames := 3, cells := 0, slots := 0, locals := 65 } : Room) (va_Pc [.ref a0, .int x, .ref bo] (fun U => U.heap.size = sz ∧ va_P (dC, dI) vwCl [(zo1iri bo mdc aEl (nI sz_)), (zaR aEl cEl 10 fEl)] U.heap ∧ va_K (dC, dI) vwCl [(cEl, .object "java/lang/Object")] U ∧ va_D (fun _ => True) [(zo1iri bo mdc aEl (nI sz_)), (zaR aEl cEl 10 fEl)] ∧ Gi ad cB bS (va_A [(zo1iri bo mdc aEl (nI sz_)), (zaR aEl cEl 10 fEl)] sz) U ∧ Gb (va_A [(zo1iri bo mdc aEl (nI sz_)), (zaR aEl cEl 10 fEl)] sz) U ∧ Gw (va_A [(zo1iri bo mdc aEl (nI sz_)), (zaR aEl cEl 10 fEl)] sz) U ∧ Fz dC dI [(zo6iiii a0 sk (nI i0) sv scl)] [] (va_A [(zo1iri bo mdc aEl (nI sz_)), (zaR aEl cEl 10 fEl)] sz) U)) (va_Qi (fun (r : Int32) (u : (Int32) × (Nat) × (Nat → Option Nat)) => match u with | (mdc9, sz_9, fEl9) => r = x + nI i0 ∧ sz_9 = sz_ + 1 ∧ okL ad fEl9 sz_9 (tl ++ [1])) (fun (u : (Int32) × (Nat) × (Nat → Option Nat)) (t : State) => match u with | (mdc9, sz_9, fEl9) => va_P (dC, dI) vwCl [(zo1iri bo mdc9 aEl (nI sz_9)), (zaR aEl cEl 10 fEl9)] t.heap ∧ va_K (dC, dI) vwCl [(cEl, .object "java/lang/Object")] t ∧ va_D (va_A [(zo1iri bo mdc aEl (nI sz_)), (zaR aEl cEl 10 fEl)] sz) [(zo1iri bo mdc9 aEl (nI sz_9)), (zaR aEl cEl 10 fEl9)]) (va_A [(zo1iri bo mdc aEl (nI sz_)), (zaR aEl cEl 10 fEl)] sz)) 0 0 (va_A [(zo1iri bo mdc aEl (nI sz_)), (zaR aEl cEl 10 fEl)] sz) := by
  refine met_ofQ (cc := cX3_doSees) (maxL := 3) (ret := (some .int)) (by decide) rfl ?_
  intro p e s m args below meth c s₁ Q B hml hv hQ
  obtain ⟨rfl, hsz, hP, hK, hD0, hI_, hB_, hW_, hZ⟩ := hv
  have hx := B.exec
  have hb := B.bytes
  have hr := B.returns
  have hts := atoms_spec (ws := wsX3_doSees) B.pre
  have hown : s.vm.findClass RX3 = some m.cls := findClass_of_methodNamed B.named
  have hlocks := B.notSynchronized
  subst hsz
  have hD := hD0.self (sz := s.heap.size)
  generalize hAe : va_A [(zo1iri bo mdc aEl (nI sz_)), (zaR aEl cEl 10 fEl)] s.heap.size = A at hD hQ hI_ hB_ hW_ hZ ⊢
  have hA : ∀ q : Nat, s.heap.size ≤ q → A q := fun q h => by rw [← hAe]; exact Or.inr h
  have hS : va_S A s.heap s.heap [] := va_S.rf
  have hl := lv_entry [.ref a0, .int x, .ref bo] (n := 3) (Nat.le_of_ble_eq_true rfl)
  rw [lg_entry_eq]
  generalize (lg_sl [.ref a0, .int x, .ref bo] ++ List.replicate (3 - (lg_sl [.ref a0, .int x, .ref bo]).length) Slot.unset).toArray = ls at hl ⊢
  generalize hag : ([.ref a0, .int x, .ref bo] : List Value).toArray = args at hts hQ ⊢
  have hl : lv_has ls 3 [(0, .ref a0), (1, .int x), (2, .ref bo)] := hl
  obtain ⟨H, hH⟩ : ∃ H : Heap, H = s.heap := ⟨_, rfl⟩
  rw [← hH] at hP
  rw [← hH]
  have hS : va_S A s.heap H [] := by rw [hH]; exact hS
  obtain ⟨locs, hlo⟩ : ∃ L : List Loc, L = [] := ⟨_, rfl⟩
  rw [← hlo] at hS
  rw [← hlo]
  clear hH hlo
  refine lv_iconst (v := 1) hx hb dX3_doSees_0 (by decide) ?_
  refine lv_aload_n hx hb dX3_doSees_1 rfl (lv_at hl 2 rfl) ?_
  have hPc := hP.sub (ws' := [(zo1iri bo mdc aEl (nI sz_)), (zaR aEl cEl 10 fEl)]) [0, 1] rfl
  have hDc := hD.sub (ws' := [(zo1iri bo mdc aEl (nI sz_)), (zaR aEl cEl 10 fEl)]) [0, 1] (by decide) rfl
  have hKc := hK.sub (tys' := [(cEl, .object "java/lang/Object")]) [0] rfl
  have hFc := va_free (wc := [(zo1iri bo mdc aEl (nI sz_)), (zaR aEl cEl 10 fEl)]) hD hS hA [0, 1] rfl
  refine va_callv (va_runS (As := [.int 1, .ref bo]) (rest := []) ⟨hx, hb, hml, hown, hts⟩ (c_begin1 l dC dI ad cB bS bo aEl 1 cEl fEl sz_ mdc tl H.size (by omega) (by omega) (zL)) (va_cwS 2 hts gX3_doSees_X3_begin rfl rfl rfl hd_yX3_begin.2 ⟨Nat.le_of_ble_eq_true rfl, Nat.le_of_ble_eq_true rfl⟩) ⟨fun a U g mk q => by obtain ⟨q0, q1, qP, qK, qD, qhI_⟩ := q; exact ⟨q0, mvz g mk a q1, mvP g mk a qP, mvK g mk a qK, qD, qhI_.mv g mk a⟩, fun U hU hW => ⟨rfl, by rw [hU], by rw [hU]; exact hPc, va_K.moved hW.alike hKc, hDc.weaken (fun _ _ _ _ => trivial), hI_.call hS hU hW (fun q h => hFc q h)⟩⟩ rfl rfl hl.1 rfl (lv_room (Nat.le_of_ble_eq_true rfl)) dX3_doSees_2 ⟨Nat.le_of_ble_eq_true rfl, Nat.le_of_ble_eq_true rfl⟩) hS (fun q _ h => hFc q h) hFc (fun u tC H1 locs htC hvm hw_2 hB hz1 hk1 hS => ?_)
  obtain ⟨mdc9_3, sz_9_4, fEl9_5⟩ := u
  try dsimp only at hw_2 hB
  obtain ⟨hP1, hK1, hD1⟩ := hB
  rw [htC] at hP1
  have hK1 := va_K.moved hvm.symm hK1
  obtain ⟨hP, hD⟩ := va_join (wr := []) (w1 := [(zo1iri bo mdc9_3 aEl (nI sz_9_4)), (zaR aEl cEl 10 fEl9_5)]) hP hD [0, 1] [] rfl rfl (by decide) (by decide) hk1 hFc hP1 hD1
  have hK := (hK.sub (tys' := []) [] rfl).app hK1
  generalize H1 = H at hP hS ⊢
  have hP : va_P (dC, dI) vwCl [(zo1iri bo mdc9_3 aEl (nI sz_9_4)), (zaR aEl cEl 10 fEl9_5)] H := hP
  have hD : va_D A [(zo1iri bo mdc9_3 aEl (nI sz_9_4)), (zaR aEl cEl 10 fEl9_5)] := hD
  have hK : va_K (dC, dI) vwCl [(cEl, .object "java/lang/Object")] s := hK
  obtain ⟨e_6, hL_7⟩ := hw_2
  obtain rfl := (e_6).symm
  refine lv_iload_n hx hb dX3_doSees_5 rfl (lv_at hl 1 rfl) ?_
  refine lv_aload_n hx hb dX3_doSees_6 rfl (lv_at hl 0 rfl) ?_
  refine va_get (D := (dC, dI)) (ci := 6) (v := .int (nI i0)) (C := RX4) (T := TX4) (N := 4) hx hb hts kc_X3_doSees_X4_1_1 hown hZ.2.1 (hZ.P hS) 0 rfl rfl 1 (by decide) (hts (.fieldLink RX3 15 "MistHeaps$Heap" "number" "I") kc_X3_doSees_X4_1_0) (fun _ h9 => h9) rfl dX3_doSees_7 ?_
  refine lv_iadd hx hb dX3_doSees_10 ?_
  rw [hQ]
  have hP9 := hP.sub (ws' := [(zo1iri bo mdc9_3 aEl (nI (sz_ + 1))), (zaR aEl cEl 10 fEl9_5)]) [0, 1] rfl
  have hD9 := hD.sub (ws' := [(zo1iri bo mdc9_3 aEl (nI (sz_ + 1))), (zaR aEl cEl 10 fEl9_5)]) [0, 1] (by decide) rfl
  have hK9 := hK.sub (tys' := [(cEl, .object "java/lang/Object")]) [0] rfl
  exact W.iret (v := x + (nI i0)) hx hb hr (fun tQ htQ hWQ => ⟨⟨(x + (nI i0)), (mdc9_3, (sz_ + 1), fEl9_5), rfl, ⟨rfl, by omega, by have h9 := hL_7; exact h9⟩, by rw [htQ]; exact hP9, va_K.moved hWQ.alike hK9, hD9⟩, hS.F htQ⟩) hS.2.2 dX3_doSees_11

theorem kc_X3_doSees_X4_0_0 : (.fieldLink RX3 15 "MistHeaps$Heap" "number" "I" : Cond) ∈ wsX3_doSees := kc_of 231 rfl rfl rfl
theorem kc_X3_doSees_X4_0_1 : ∀ w ∈ wsX40, w ∈ wsX3_doSees := fun w h => List.mem_cons_of_mem _ (gin_wsX40 w h)
set_option maxHeartbeats 4000000 in
set_option maxRecDepth 100000 in
theorem c_X3_doSees_X4_0 (l : Launch) (dC : Nat → ClassId) (dI : Nat → Nat → Nat) (ad : Nat → Nat) (cB bS : Nat)    (bo : Nat) (i0 : Nat) (sk : Int32) (sv : Int32) (scl : Int32) (x : Int32) (a0 : Nat) (mdc : Int32) (sz : Nat) : Met l yX3_doSees wsX3_doSees ({ frames := 6, cells := 1, slots := 10, locals := 122 } : Room) (va_Pc [.ref a0, .int x, .ref bo] (fun U => U.heap.size = sz ∧ va_P (dC, dI) vwCl [(zo1iri bo mdc bS 0)] U.heap ∧ va_K (dC, dI) vwCl [] U ∧ va_D (fun _ => True) [(zo1iri bo mdc bS 0)] ∧ Gi ad cB bS (va_A [(zo1iri bo mdc bS 0)] sz) U ∧ Gb (va_A [(zo1iri bo mdc bS 0)] sz) U ∧ Gw (va_A [(zo1iri bo mdc bS 0)] sz) U ∧ Fz dC dI [(zo6iiii a0 sk (nI i0) sv scl)] [] (va_A [(zo1iri bo mdc bS 0)] sz) U)) (va_Qi (fun (r : Int32) (u : (Int32) × (Nat) × (ClassId) × (Nat) × (Nat → Option Nat)) => match u with | (mdc9, aEl9, cEl9, sz_9, fEl9) => r = x + nI i0 ∧ sz_9 = 1 ∧ okL ad fEl9 sz_9 [1]) (fun (u : (Int32) × (Nat) × (ClassId) × (Nat) × (Nat → Option Nat)) (t : State) => match u with | (mdc9, aEl9, cEl9, sz_9, fEl9) => va_P (dC, dI) vwCl [(zo1iri bo mdc9 aEl9 (nI sz_9)), (zaR aEl9 cEl9 10 fEl9)] t.heap ∧ va_K (dC, dI) vwCl [(cEl9, .object "java/lang/Object")] t ∧ va_D (va_A [(zo1iri bo mdc bS 0)] sz) [(zo1iri bo mdc9 aEl9 (nI sz_9)), (zaR aEl9 cEl9 10 fEl9)]) (va_A [(zo1iri bo mdc bS 0)] sz)) 1 10 (va_A [(zo1iri bo mdc bS 0)] sz) := by
  refine met_ofQ (cc := cX3_doSees) (maxL := 3) (ret := (some .int)) (by decide) rfl ?_
  intro p e s m args below meth c s₁ Q B hml hv hQ
  obtain ⟨rfl, hsz, hP, hK, hD0, hI_, hB_, hW_, hZ⟩ := hv
  have hx := B.exec
  have hb := B.bytes
  have hr := B.returns
  have hts := atoms_spec (ws := wsX3_doSees) B.pre
  have hown : s.vm.findClass RX3 = some m.cls := findClass_of_methodNamed B.named
  have hlocks := B.notSynchronized
  subst hsz
  have hD := hD0.self (sz := s.heap.size)
  generalize hAe : va_A [(zo1iri bo mdc bS 0)] s.heap.size = A at hD hQ hI_ hB_ hW_ hZ ⊢
  have hA : ∀ q : Nat, s.heap.size ≤ q → A q := fun q h => by rw [← hAe]; exact Or.inr h
  have hS : va_S A s.heap s.heap [] := va_S.rf
  have hl := lv_entry [.ref a0, .int x, .ref bo] (n := 3) (Nat.le_of_ble_eq_true rfl)
  rw [lg_entry_eq]
  generalize (lg_sl [.ref a0, .int x, .ref bo] ++ List.replicate (3 - (lg_sl [.ref a0, .int x, .ref bo]).length) Slot.unset).toArray = ls at hl ⊢
  generalize hag : ([.ref a0, .int x, .ref bo] : List Value).toArray = args at hts hQ ⊢
  have hl : lv_has ls 3 [(0, .ref a0), (1, .int x), (2, .ref bo)] := hl
  obtain ⟨H, hH⟩ : ∃ H : Heap, H = s.heap := ⟨_, rfl⟩
  rw [← hH] at hP
  rw [← hH]
  have hS : va_S A s.heap H [] := by rw [hH]; exact hS
  obtain ⟨locs, hlo⟩ : ∃ L : List Loc, L = [] := ⟨_, rfl⟩
  rw [← hlo] at hS
  rw [← hlo]
  clear hH hlo
  refine lv_iconst (v := 1) hx hb dX3_doSees_0 (by decide) ?_
  refine lv_aload_n hx hb dX3_doSees_1 rfl (lv_at hl 2 rfl) ?_
  have hPc := hP.sub (ws' := [(zo1iri bo mdc bS 0)]) [0] rfl
  have hDc := hD.sub (ws' := [(zo1iri bo mdc bS 0)]) [0] (by decide) rfl
  have hKc := hK.sub (tys' := []) [] rfl
  have hFc := va_free (wc := [(zo1iri bo mdc bS 0)]) hD hS hA [0] rfl
  refine va_callv (va_runS (As := [.int 1, .ref bo]) (rest := []) ⟨hx, hb, hml, hown, hts⟩ (c_begin0 l dC dI ad cB bS bo mdc 1 H.size (by omega)) (va_cwS 2 hts gX3_doSees_X3_begin rfl rfl rfl hd_yX3_begin.2 ⟨Nat.le_of_ble_eq_true rfl, Nat.le_of_ble_eq_true rfl⟩) ⟨fun a U g mk q => by obtain ⟨q0, q1, qP, qK, qD, qhI_⟩ := q; exact ⟨q0, mvz g mk a q1, mvP g mk a qP, mvK g mk a qK, qD, qhI_.mv g mk a⟩, fun U hU hW => ⟨rfl, by rw [hU], by rw [hU]; exact hPc, va_K.moved hW.alike hKc, hDc.weaken (fun _ _ _ _ => trivial), hI_.call hS hU hW (fun q h => hFc q h)⟩⟩ rfl rfl hl.1 rfl (lv_room (Nat.le_of_ble_eq_true rfl)) dX3_doSees_2 ⟨Nat.le_of_ble_eq_true rfl, Nat.le_of_ble_eq_true rfl⟩) hS (fun q _ h => hFc q h) hFc (fun u tC H1 locs htC hvm hw_2 hB hz1 hk1 hS => ?_)
  obtain ⟨mdc9_3, aEl9_4, cEl9_5, sz_9_6, fEl9_7⟩ := u
  try dsimp only at hw_2 hB
  obtain ⟨hP1, hK1, hD1⟩ := hB
  rw [htC] at hP1
  have hK1 := va_K.moved hvm.symm hK1
  obtain ⟨hP, hD⟩ := va_join (wr := []) (w1 := [(zo1iri bo mdc9_3 aEl9_4 (nI sz_9_6)), (zaR aEl9_4 cEl9_5 10 fEl9_7)]) hP hD [0] [] rfl rfl (by decide) (by decide) hk1 hFc hP1 hD1
  have hK := (hK.sub (tys' := []) [] rfl).app hK1
  generalize H1 = H at hP hS ⊢
  have hP : va_P (dC, dI) vwCl [(zo1iri bo mdc9_3 aEl9_4 (nI sz_9_6)), (zaR aEl9_4 cEl9_5 10 fEl9_7)] H := hP
  have hD : va_D A [(zo1iri bo mdc9_3 aEl9_4 (nI sz_9_6)), (zaR aEl9_4 cEl9_5 10 fEl9_7)] := hD
  have hK : va_K (dC, dI) vwCl [(cEl9_5, .object "java/lang/Object")] s := hK
  refine W.widen (k := 1) (n := 10) (by omega) (by omega) ?_
  obtain ⟨e_8, hL_9⟩ := hw_2
  obtain rfl := (e_8).symm
  refine lv_iload_n hx hb dX3_doSees_5 rfl (lv_at hl 1 rfl) ?_
  refine lv_aload_n hx hb dX3_doSees_6 rfl (lv_at hl 0 rfl) ?_
  refine va_get (D := (dC, dI)) (ci := 6) (v := .int (nI i0)) (C := RX4) (T := TX4) (N := 4) hx hb hts kc_X3_doSees_X4_0_1 hown hZ.2.1 (hZ.P hS) 0 rfl rfl 1 (by decide) (hts (.fieldLink RX3 15 "MistHeaps$Heap" "number" "I") kc_X3_doSees_X4_0_0) (fun _ h9 => h9) rfl dX3_doSees_7 ?_
  refine lv_iadd hx hb dX3_doSees_10 ?_
  rw [hQ]
  have hP9 := hP.sub (ws' := [(zo1iri bo mdc9_3 aEl9_4 (nI 1)), (zaR aEl9_4 cEl9_5 10 fEl9_7)]) [0, 1] rfl
  have hD9 := hD.sub (ws' := [(zo1iri bo mdc9_3 aEl9_4 (nI 1)), (zaR aEl9_4 cEl9_5 10 fEl9_7)]) [0, 1] (by decide) rfl
  have hK9 := hK.sub (tys' := [(cEl9_5, .object "java/lang/Object")]) [0] rfl
  refine W.widen (k := 1) (n := 10) (by omega) (by omega) ?_
  exact W.iret (v := x + (nI i0)) hx hb hr (fun tQ htQ hWQ => ⟨⟨(x + (nI i0)), (mdc9_3, aEl9_4, cEl9_5, 1, fEl9_7), rfl, ⟨rfl, by omega, hL_9⟩, by rw [htQ]; exact hP9, va_K.moved hWQ.alike hK9, hD9⟩, hS.F htQ⟩) hS.2.2 dX3_doSees_11

set_option maxHeartbeats 4000000 in
set_option maxRecDepth 100000 in
theorem c_X4_doSees_X4_1 (l : Launch) (dC : Nat → ClassId) (dI : Nat → Nat → Nat) (ad : Nat → Nat) (cB bS : Nat)    (bo : Nat) (aEl : Nat) (i0 : Nat) (sk : Int32) (sv : Int32) (scl : Int32) (x : Int32) (cEl : ClassId) (fEl : Nat → Option Nat) (a0 : Nat) (sz_ : Nat) (mdc : Int32) (tl : List Nat) (sz : Nat) (hsz : sz_ + 2 ≤ 10) (zL : okL ad fEl sz_ tl) : Met l yX4_doSees wsX4_doSees ({ frames := 4, cells := 0, slots := 0, locals := 87 } : Room) (va_Pc [.ref a0, .int x, .ref bo] (fun U => U.heap.size = sz ∧ va_P (dC, dI) vwCl [(zo1iri bo mdc aEl (nI sz_)), (zaR aEl cEl 10 fEl)] U.heap ∧ va_K (dC, dI) vwCl [(cEl, .object "java/lang/Object")] U ∧ va_D (fun _ => True) [(zo1iri bo mdc aEl (nI sz_)), (zaR aEl cEl 10 fEl)] ∧ Gi ad cB bS (va_A [(zo1iri bo mdc aEl (nI sz_)), (zaR aEl cEl 10 fEl)] sz) U ∧ Gb (va_A [(zo1iri bo mdc aEl (nI sz_)), (zaR aEl cEl 10 fEl)] sz) U ∧ Gw (va_A [(zo1iri bo mdc aEl (nI sz_)), (zaR aEl cEl 10 fEl)] sz) U ∧ Fz dC dI [(zo6iiii a0 sk (nI i0) sv scl)] [] (va_A [(zo1iri bo mdc aEl (nI sz_)), (zaR aEl cEl 10 fEl)] sz) U)) (va_Qi (fun (r : Int32) (u : (Int32) × (Nat) × (Nat → Option Nat)) => match u with | (mdc9, sz_9, fEl9) => r = x * 3 + nI i0 ∧ sz_9 = sz_ + 2 ∧ okL ad fEl9 sz_9 (tl ++ [11, 1])) (fun (u : (Int32) × (Nat) × (Nat → Option Nat)) (t : State) => match u with | (mdc9, sz_9, fEl9) => va_P (dC, dI) vwCl [(zo1iri bo mdc9 aEl (nI sz_9)), (zaR aEl cEl 10 fEl9)] t.heap ∧ va_K (dC, dI) vwCl [(cEl, .object "java/lang/Object")] t ∧ va_D (va_A [(zo1iri bo mdc aEl (nI sz_)), (zaR aEl cEl 10 fEl)] sz) [(zo1iri bo mdc9 aEl (nI sz_9)), (zaR aEl cEl 10 fEl9)]) (va_A [(zo1iri bo mdc aEl (nI sz_)), (zaR aEl cEl 10 fEl)] sz)) 0 0 (va_A [(zo1iri bo mdc aEl (nI sz_)), (zaR aEl cEl 10 fEl)] sz) := by
  refine met_ofQ (cc := cX4_doSees) (maxL := 3) (ret := (some .int)) (by decide) rfl ?_
  intro p e s m args below meth c s₁ Q B hml hv hQ
  obtain ⟨rfl, hsz, hP, hK, hD0, hI_, hB_, hW_, hZ⟩ := hv
  have hx := B.exec
  have hb := B.bytes
  have hr := B.returns
  have hts := atoms_spec (ws := wsX4_doSees) B.pre
  have hown : s.vm.findClass RX4 = some m.cls := findClass_of_methodNamed B.named
  have hlocks := B.notSynchronized
  subst hsz
  have hD := hD0.self (sz := s.heap.size)
  generalize hAe : va_A [(zo1iri bo mdc aEl (nI sz_)), (zaR aEl cEl 10 fEl)] s.heap.size = A at hD hQ hI_ hB_ hW_ hZ ⊢
  have hA : ∀ q : Nat, s.heap.size ≤ q → A q := fun q h => by rw [← hAe]; exact Or.inr h
  have hS : va_S A s.heap s.heap [] := va_S.rf
  have hl := lv_entry [.ref a0, .int x, .ref bo] (n := 3) (Nat.le_of_ble_eq_true rfl)
  rw [lg_entry_eq]
  generalize (lg_sl [.ref a0, .int x, .ref bo] ++ List.replicate (3 - (lg_sl [.ref a0, .int x, .ref bo]).length) Slot.unset).toArray = ls at hl ⊢
  generalize hag : ([.ref a0, .int x, .ref bo] : List Value).toArray = args at hts hQ ⊢
  have hl : lv_has ls 3 [(0, .ref a0), (1, .int x), (2, .ref bo)] := hl
  obtain ⟨H, hH⟩ : ∃ H : Heap, H = s.heap := ⟨_, rfl⟩
  rw [← hH] at hP
  rw [← hH]
  have hS : va_S A s.heap H [] := by rw [hH]; exact hS
  obtain ⟨locs, hlo⟩ : ∃ L : List Loc, L = [] := ⟨_, rfl⟩
  rw [← hlo] at hS
  rw [← hlo]
  clear hH hlo
  refine lv_bipush (v := 11) hx hb dX4_doSees_0 (by decide) ?_
  refine lv_aload_n hx hb dX4_doSees_2 rfl (lv_at hl 2 rfl) ?_
  have hPc := hP.sub (ws' := [(zo1iri bo mdc aEl (nI sz_)), (zaR aEl cEl 10 fEl)]) [0, 1] rfl
  have hDc := hD.sub (ws' := [(zo1iri bo mdc aEl (nI sz_)), (zaR aEl cEl 10 fEl)]) [0, 1] (by decide) rfl
  have hKc := hK.sub (tys' := [(cEl, .object "java/lang/Object")]) [0] rfl
  have hFc := va_free (wc := [(zo1iri bo mdc aEl (nI sz_)), (zaR aEl cEl 10 fEl)]) hD hS hA [0, 1] rfl
  refine va_callv (va_runU2 (As := [.int 11, .ref bo]) (rest := []) ⟨hx, hb, hml, hown, hts⟩ (c_begin1 l dC dI ad cB bS bo aEl 11 cEl fEl sz_ mdc tl H.size (by omega) (by omega) (zL)) (u2_cw (x := xb4) 2 hB_ inb4 rfl rfl rfl rfl rfl (by decide +kernel) ⟨Nat.le_of_ble_eq_true rfl, Nat.le_of_ble_eq_true rfl⟩) ⟨fun a U g mk q => by obtain ⟨q0, q1, qP, qK, qD, qhI_⟩ := q; exact ⟨q0, mvz g mk a q1, mvP g mk a qP, mvK g mk a qK, qD, qhI_.mv g mk a⟩, fun U hU hW => ⟨rfl, by rw [hU], by rw [hU]; exact hPc, va_K.moved hW.alike hKc, hDc.weaken (fun _ _ _ _ => trivial), hI_.call hS hU hW (fun q h => hFc q h)⟩⟩ rfl rfl hl.1 rfl (lv_room (Nat.le_of_ble_eq_true rfl)) dX4_doSees_3 ⟨Nat.le_of_ble_eq_true rfl, Nat.le_of_ble_eq_true rfl⟩) hS (fun q _ h => hFc q h) hFc (fun u tC H1 locs htC hvm hw_2 hB hz1 hk1 hS => ?_)
  obtain ⟨mdc9_3, sz_9_4, fEl9_5⟩ := u
  try dsimp only at hw_2 hB
  obtain ⟨hP1, hK1, hD1⟩ := hB
  rw [htC] at hP1
  have hK1 := va_K.moved hvm.symm hK1
  obtain ⟨hP, hD⟩ := va_join (wr := []) (w1 := [(zo1iri bo mdc9_3 aEl (nI sz_9_4)), (zaR aEl cEl 10 fEl9_5)]) hP hD [0, 1] [] rfl rfl (by decide) (by decide) hk1 hFc hP1 hD1
  have hK := (hK.sub (tys' := []) [] rfl).app hK1
  generalize H1 = H at hP hS ⊢
  have hP : va_P (dC, dI) vwCl [(zo1iri bo mdc9_3 aEl (nI sz_9_4)), (zaR aEl cEl 10 fEl9_5)] H := hP
  have hD : va_D A [(zo1iri bo mdc9_3 aEl (nI sz_9_4)), (zaR aEl cEl 10 fEl9_5)] := hD
  have hK : va_K (dC, dI) vwCl [(cEl, .object "java/lang/Object")] s := hK
  obtain ⟨e_6, hL_7⟩ := hw_2
  obtain rfl := (e_6).symm
  refine lv_aload_n hx hb dX4_doSees_6 rfl (lv_at hl 0 rfl) ?_
  refine lv_iload_n hx hb dX4_doSees_7 rfl (lv_at hl 1 rfl) ?_
  refine lv_iconst (v := 3) hx hb dX4_doSees_8 (by decide) ?_
  refine lv_imul hx hb dX4_doSees_9 ?_
  refine lv_aload_n hx hb dX4_doSees_10 rfl (lv_at hl 2 rfl) ?_
  have hPc := hP.sub (ws' := [(zo1iri bo mdc9_3 aEl (nI (sz_ + 1))), (zaR aEl cEl 10 fEl9_5)]) [0, 1] rfl
  have hDc := hD.sub (ws' := [(zo1iri bo mdc9_3 aEl (nI (sz_ + 1))), (zaR aEl cEl 10 fEl9_5)]) [0, 1] (by decide) rfl
  have hKc := hK.sub (tys' := [(cEl, .object "java/lang/Object")]) [0] rfl
  have hFc := va_free (wc := [(zo1iri bo mdc9_3 aEl (nI (sz_ + 1))), (zaR aEl cEl 10 fEl9_5)]) hD hS hA [0, 1] rfl
  refine va_calli (va_runSU (hZ.2.1.1 6 (RX4, TX4, 4) rfl).2 (As := [.int (x * 3), .ref bo]) (rest := []) ⟨hx, hb, hml, hown, hts⟩ (c_X3_doSees_X4_1 l dC dI ad cB bS    bo aEl i0 sk sv scl (x * 3) cEl fEl9_5 a0 (sz_ + 1) mdc9_3 (tl ++ [11]) H.size (by omega) (hL_7)) (va_cwSU 2 hts gX4_doSees_X3_doSees_s21 rfl rfl rfl (by decide +kernel) ⟨Nat.le_of_ble_eq_true rfl, Nat.le_of_ble_eq_true rfl⟩) ⟨fun a U g mk q => by obtain ⟨q0, q1, qP, qK, qD, qhI_, qhB_, qhW_, qhZ⟩ := q; exact ⟨q0, mvz g mk a q1, mvP g mk a qP, mvK g mk a qK, qD, qhI_.mv g mk a, qhB_.mv g mk a, qhW_.mv g mk a, qhZ.mv g mk a⟩, va_recv hZ.2.1 (hZ.P hS) (ci := 6) (q := (RX4, TX4, 4)) (q0 := 0) rfl rfl, fun U hU hW => ⟨rfl, by rw [hU], by rw [hU]; exact hPc, va_K.moved hW.alike hKc, hDc.weaken (fun _ _ _ _ => trivial), hI_.call hS hU hW (fun q h => hFc q h), hB_.call hS hU hW (fun q h => hFc q h), hW_.call hS hU hW (fun q h => hFc q h), (hZ.sub [0] [] rfl rfl).call hS hU hW (fun q h => hFc q h)⟩⟩ rfl rfl hl.1 rfl (lv_room (Nat.le_of_ble_eq_true rfl)) dX4_doSees_11 ⟨Nat.le_of_ble_eq_true rfl, Nat.le_of_ble_eq_true rfl⟩) hS (fun q _ h => hFc q h) hFc (fun r_8 u tC H1 locs htC hvm hw_9 hB hz1 hk1 hS => ?_)
  obtain ⟨mdc9_10, sz_9_11, fEl9_12⟩ := u
  try dsimp only at hw_9 hB
  obtain ⟨hP1, hK1, hD1⟩ := hB
  rw [htC] at hP1
  have hK1 := va_K.moved hvm.symm hK1
  obtain ⟨hP, hD⟩ := va_join (wr := []) (w1 := [(zo1iri bo mdc9_10 aEl (nI sz_9_11)), (zaR aEl cEl 10 fEl9_12)]) hP hD [0, 1] [] rfl rfl (by decide) (by decide) hk1 hFc hP1 hD1
  have hK := (hK.sub (tys' := []) [] rfl).app hK1
  generalize H1 = H at hP hS ⊢
  have hP : va_P (dC, dI) vwCl [(zo1iri bo mdc9_10 aEl (nI sz_9_11)), (zaR aEl cEl 10 fEl9_12)] H := hP
  have hD : va_D A [(zo1iri bo mdc9_10 aEl (nI sz_9_11)), (zaR aEl cEl 10 fEl9_12)] := hD
  have hK : va_K (dC, dI) vwCl [(cEl, .object "java/lang/Object")] s := hK
  obtain ⟨er_13, e_14, hL_15⟩ := hw_9
  obtain rfl := (e_14).symm
  subst er_13
  rw [hQ]
  have hP9 := hP.sub (ws' := [(zo1iri bo mdc9_10 aEl (nI ((sz_ + 1) + 1))), (zaR aEl cEl 10 fEl9_12)]) [0, 1] rfl
  have hD9 := hD.sub (ws' := [(zo1iri bo mdc9_10 aEl (nI ((sz_ + 1) + 1))), (zaR aEl cEl 10 fEl9_12)]) [0, 1] (by decide) rfl
  have hK9 := hK.sub (tys' := [(cEl, .object "java/lang/Object")]) [0] rfl
  exact W.iret (v := (x * 3) + nI i0) hx hb hr (fun tQ htQ hWQ => ⟨⟨((x * 3) + nI i0), (mdc9_10, ((sz_ + 1) + 1), fEl9_12), rfl, ⟨rfl, by omega, by have h9 := okL_as (hL_15); exact h9⟩, by rw [htQ]; exact hP9, va_K.moved hWQ.alike hK9, hD9⟩, hS.F htQ⟩) hS.2.2 dX4_doSees_14

set_option maxHeartbeats 4000000 in
set_option maxRecDepth 100000 in
theorem c_X4_doSees_X4_0 (l : Launch) (dC : Nat → ClassId) (dI : Nat → Nat → Nat) (ad : Nat → Nat) (cB bS : Nat)    (bo : Nat) (i0 : Nat) (sk : Int32) (sv : Int32) (scl : Int32) (x : Int32) (a0 : Nat) (mdc : Int32) (sz : Nat) : Met l yX4_doSees wsX4_doSees ({ frames := 6, cells := 1, slots := 10, locals := 122 } : Room) (va_Pc [.ref a0, .int x, .ref bo] (fun U => U.heap.size = sz ∧ va_P (dC, dI) vwCl [(zo1iri bo mdc bS 0)] U.heap ∧ va_K (dC, dI) vwCl [] U ∧ va_D (fun _ => True) [(zo1iri bo mdc bS 0)] ∧ Gi ad cB bS (va_A [(zo1iri bo mdc bS 0)] sz) U ∧ Gb (va_A [(zo1iri bo mdc bS 0)] sz) U ∧ Gw (va_A [(zo1iri bo mdc bS 0)] sz) U ∧ Fz dC dI [(zo6iiii a0 sk (nI i0) sv scl)] [] (va_A [(zo1iri bo mdc bS 0)] sz) U)) (va_Qi (fun (r : Int32) (u : (Int32) × (Nat) × (ClassId) × (Nat) × (Nat → Option Nat)) => match u with | (mdc9, aEl9, cEl9, sz_9, fEl9) => r = x * 3 + nI i0 ∧ sz_9 = 2 ∧ okL ad fEl9 sz_9 [11, 1]) (fun (u : (Int32) × (Nat) × (ClassId) × (Nat) × (Nat → Option Nat)) (t : State) => match u with | (mdc9, aEl9, cEl9, sz_9, fEl9) => va_P (dC, dI) vwCl [(zo1iri bo mdc9 aEl9 (nI sz_9)), (zaR aEl9 cEl9 10 fEl9)] t.heap ∧ va_K (dC, dI) vwCl [(cEl9, .object "java/lang/Object")] t ∧ va_D (va_A [(zo1iri bo mdc bS 0)] sz) [(zo1iri bo mdc9 aEl9 (nI sz_9)), (zaR aEl9 cEl9 10 fEl9)]) (va_A [(zo1iri bo mdc bS 0)] sz)) 1 10 (va_A [(zo1iri bo mdc bS 0)] sz) := by
  refine met_ofQ (cc := cX4_doSees) (maxL := 3) (ret := (some .int)) (by decide) rfl ?_
  intro p e s m args below meth c s₁ Q B hml hv hQ
  obtain ⟨rfl, hsz, hP, hK, hD0, hI_, hB_, hW_, hZ⟩ := hv
  have hx := B.exec
  have hb := B.bytes
  have hr := B.returns
  have hts := atoms_spec (ws := wsX4_doSees) B.pre
  have hown : s.vm.findClass RX4 = some m.cls := findClass_of_methodNamed B.named
  have hlocks := B.notSynchronized
  subst hsz
  have hD := hD0.self (sz := s.heap.size)
  generalize hAe : va_A [(zo1iri bo mdc bS 0)] s.heap.size = A at hD hQ hI_ hB_ hW_ hZ ⊢
  have hA : ∀ q : Nat, s.heap.size ≤ q → A q := fun q h => by rw [← hAe]; exact Or.inr h
  have hS : va_S A s.heap s.heap [] := va_S.rf
  have hl := lv_entry [.ref a0, .int x, .ref bo] (n := 3) (Nat.le_of_ble_eq_true rfl)
  rw [lg_entry_eq]
  generalize (lg_sl [.ref a0, .int x, .ref bo] ++ List.replicate (3 - (lg_sl [.ref a0, .int x, .ref bo]).length) Slot.unset).toArray = ls at hl ⊢
  generalize hag : ([.ref a0, .int x, .ref bo] : List Value).toArray = args at hts hQ ⊢
  have hl : lv_has ls 3 [(0, .ref a0), (1, .int x), (2, .ref bo)] := hl
  obtain ⟨H, hH⟩ : ∃ H : Heap, H = s.heap := ⟨_, rfl⟩
  rw [← hH] at hP
  rw [← hH]
  have hS : va_S A s.heap H [] := by rw [hH]; exact hS
  obtain ⟨locs, hlo⟩ : ∃ L : List Loc, L = [] := ⟨_, rfl⟩
  rw [← hlo] at hS
  rw [← hlo]
  clear hH hlo
  refine lv_bipush (v := 11) hx hb dX4_doSees_0 (by decide) ?_
  refine lv_aload_n hx hb dX4_doSees_2 rfl (lv_at hl 2 rfl) ?_
  have hPc := hP.sub (ws' := [(zo1iri bo mdc bS 0)]) [0] rfl
  have hDc := hD.sub (ws' := [(zo1iri bo mdc bS 0)]) [0] (by decide) rfl
  have hKc := hK.sub (tys' := []) [] rfl
  have hFc := va_free (wc := [(zo1iri bo mdc bS 0)]) hD hS hA [0] rfl
  refine va_callv (va_runU2 (As := [.int 11, .ref bo]) (rest := []) ⟨hx, hb, hml, hown, hts⟩ (c_begin0 l dC dI ad cB bS bo mdc 11 H.size (by omega)) (u2_cw (x := xb4) 2 hB_ inb4 rfl rfl rfl rfl rfl (by decide +kernel) ⟨Nat.le_of_ble_eq_true rfl, Nat.le_of_ble_eq_true rfl⟩) ⟨fun a U g mk q => by obtain ⟨q0, q1, qP, qK, qD, qhI_⟩ := q; exact ⟨q0, mvz g mk a q1, mvP g mk a qP, mvK g mk a qK, qD, qhI_.mv g mk a⟩, fun U hU hW => ⟨rfl, by rw [hU], by rw [hU]; exact hPc, va_K.moved hW.alike hKc, hDc.weaken (fun _ _ _ _ => trivial), hI_.call hS hU hW (fun q h => hFc q h)⟩⟩ rfl rfl hl.1 rfl (lv_room (Nat.le_of_ble_eq_true rfl)) dX4_doSees_3 ⟨Nat.le_of_ble_eq_true rfl, Nat.le_of_ble_eq_true rfl⟩) hS (fun q _ h => hFc q h) hFc (fun u tC H1 locs htC hvm hw_2 hB hz1 hk1 hS => ?_)
  obtain ⟨mdc9_3, aEl9_4, cEl9_5, sz_9_6, fEl9_7⟩ := u
  try dsimp only at hw_2 hB
  obtain ⟨hP1, hK1, hD1⟩ := hB
  rw [htC] at hP1
  have hK1 := va_K.moved hvm.symm hK1
  obtain ⟨hP, hD⟩ := va_join (wr := []) (w1 := [(zo1iri bo mdc9_3 aEl9_4 (nI sz_9_6)), (zaR aEl9_4 cEl9_5 10 fEl9_7)]) hP hD [0] [] rfl rfl (by decide) (by decide) hk1 hFc hP1 hD1
  have hK := (hK.sub (tys' := []) [] rfl).app hK1
  generalize H1 = H at hP hS ⊢
  have hP : va_P (dC, dI) vwCl [(zo1iri bo mdc9_3 aEl9_4 (nI sz_9_6)), (zaR aEl9_4 cEl9_5 10 fEl9_7)] H := hP
  have hD : va_D A [(zo1iri bo mdc9_3 aEl9_4 (nI sz_9_6)), (zaR aEl9_4 cEl9_5 10 fEl9_7)] := hD
  have hK : va_K (dC, dI) vwCl [(cEl9_5, .object "java/lang/Object")] s := hK
  refine W.widen (k := 1) (n := 10) (by omega) (by omega) ?_
  obtain ⟨e_8, hL_9⟩ := hw_2
  obtain rfl := (e_8).symm
  refine lv_aload_n hx hb dX4_doSees_6 rfl (lv_at hl 0 rfl) ?_
  refine lv_iload_n hx hb dX4_doSees_7 rfl (lv_at hl 1 rfl) ?_
  refine lv_iconst (v := 3) hx hb dX4_doSees_8 (by decide) ?_
  refine lv_imul hx hb dX4_doSees_9 ?_
  refine lv_aload_n hx hb dX4_doSees_10 rfl (lv_at hl 2 rfl) ?_
  have hPc := hP.sub (ws' := [(zo1iri bo mdc9_3 aEl9_4 (nI 1)), (zaR aEl9_4 cEl9_5 10 fEl9_7)]) [0, 1] rfl
  have hDc := hD.sub (ws' := [(zo1iri bo mdc9_3 aEl9_4 (nI 1)), (zaR aEl9_4 cEl9_5 10 fEl9_7)]) [0, 1] (by decide) rfl
  have hKc := hK.sub (tys' := [(cEl9_5, .object "java/lang/Object")]) [0] rfl
  have hFc := va_free (wc := [(zo1iri bo mdc9_3 aEl9_4 (nI 1)), (zaR aEl9_4 cEl9_5 10 fEl9_7)]) hD hS hA [0, 1] rfl
  refine va_calli (va_runSU (hZ.2.1.1 6 (RX4, TX4, 4) rfl).2 (As := [.int (x * 3), .ref bo]) (rest := []) ⟨hx, hb, hml, hown, hts⟩ (c_X3_doSees_X4_1 l dC dI ad cB bS    bo aEl9_4 i0 sk sv scl (x * 3) cEl9_5 fEl9_7 a0 1 mdc9_3 ([11]) H.size (by omega) (hL_9)) (va_cwSU 2 hts gX4_doSees_X3_doSees_s21 rfl rfl rfl (by decide +kernel) ⟨Nat.le_of_ble_eq_true rfl, Nat.le_of_ble_eq_true rfl⟩) ⟨fun a U g mk q => by obtain ⟨q0, q1, qP, qK, qD, qhI_, qhB_, qhW_, qhZ⟩ := q; exact ⟨q0, mvz g mk a q1, mvP g mk a qP, mvK g mk a qK, qD, qhI_.mv g mk a, qhB_.mv g mk a, qhW_.mv g mk a, qhZ.mv g mk a⟩, va_recv hZ.2.1 (hZ.P hS) (ci := 6) (q := (RX4, TX4, 4)) (q0 := 0) rfl rfl, fun U hU hW => ⟨rfl, by rw [hU], by rw [hU]; exact hPc, va_K.moved hW.alike hKc, hDc.weaken (fun _ _ _ _ => trivial), hI_.call hS hU hW (fun q h => hFc q h), hB_.call hS hU hW (fun q h => hFc q h), hW_.call hS hU hW (fun q h => hFc q h), (hZ.sub [0] [] rfl rfl).call hS hU hW (fun q h => hFc q h)⟩⟩ rfl rfl hl.1 rfl (lv_room (Nat.le_of_ble_eq_true rfl)) dX4_doSees_11 ⟨Nat.le_of_ble_eq_true rfl, Nat.le_of_ble_eq_true rfl⟩) hS (fun q _ h => hFc q h) hFc (fun r_10 u tC H1 locs htC hvm hw_11 hB hz1 hk1 hS => ?_)
  obtain ⟨mdc9_12, sz_9_13, fEl9_14⟩ := u
  try dsimp only at hw_11 hB
  obtain ⟨hP1, hK1, hD1⟩ := hB
  rw [htC] at hP1
  have hK1 := va_K.moved hvm.symm hK1
  obtain ⟨hP, hD⟩ := va_join (wr := []) (w1 := [(zo1iri bo mdc9_12 aEl9_4 (nI sz_9_13)), (zaR aEl9_4 cEl9_5 10 fEl9_14)]) hP hD [0, 1] [] rfl rfl (by decide) (by decide) hk1 hFc hP1 hD1
  have hK := (hK.sub (tys' := []) [] rfl).app hK1
  generalize H1 = H at hP hS ⊢
  have hP : va_P (dC, dI) vwCl [(zo1iri bo mdc9_12 aEl9_4 (nI sz_9_13)), (zaR aEl9_4 cEl9_5 10 fEl9_14)] H := hP
  have hD : va_D A [(zo1iri bo mdc9_12 aEl9_4 (nI sz_9_13)), (zaR aEl9_4 cEl9_5 10 fEl9_14)] := hD
  have hK : va_K (dC, dI) vwCl [(cEl9_5, .object "java/lang/Object")] s := hK
  obtain ⟨er_15, e_16, hL_17⟩ := hw_11
  obtain rfl := (e_16).symm
  subst er_15
  rw [hQ]
  have hP9 := hP.sub (ws' := [(zo1iri bo mdc9_12 aEl9_4 (nI (1 + 1))), (zaR aEl9_4 cEl9_5 10 fEl9_14)]) [0, 1] rfl
  have hD9 := hD.sub (ws' := [(zo1iri bo mdc9_12 aEl9_4 (nI (1 + 1))), (zaR aEl9_4 cEl9_5 10 fEl9_14)]) [0, 1] (by decide) rfl
  have hK9 := hK.sub (tys' := [(cEl9_5, .object "java/lang/Object")]) [0] rfl
  refine W.widen (k := 1) (n := 10) (by omega) (by omega) ?_
  exact W.iret (v := (x * 3) + nI i0) hx hb hr (fun tQ htQ hWQ => ⟨⟨((x * 3) + nI i0), (mdc9_12, aEl9_4, cEl9_5, (1 + 1), fEl9_14), rfl, ⟨rfl, by omega, hL_17⟩, by rw [htQ]; exact hP9, va_K.moved hWQ.alike hK9, hD9⟩, hS.F htQ⟩) hS.2.2 dX4_doSees_14

theorem kc_X3_doGoes_X4_1_0 : (.code yX3_doSees cX3_doSees 3 (some .int) : Cond) ∈ wsX3_doGoes := kc_of 1025 rfl rfl rfl
theorem kc_X3_doGoes_X4_1_1 : (.fieldLink RX3 18 "MistHeaps$Heap" "v" "I" : Cond) ∈ wsX3_doGoes := kc_of 236 rfl rfl rfl
theorem kc_X3_doGoes_X4_1_2 : ∀ w ∈ wsX40, w ∈ wsX3_doGoes := fun w h => List.mem_cons_of_mem _ (gin_wsX40 w h)
set_option maxHeartbeats 4000000 in
set_option maxRecDepth 100000 in
theorem c_X3_doGoes_X4_1 (l : Launch) (dC : Nat → ClassId) (dI : Nat → Nat → Nat) (ad : Nat → Nat) (cB bS : Nat)    (bo : Nat) (aEl : Nat) (i0 : Nat) (sk : Int32) (sv : Int32) (scl : Int32) (x : Int32) (cEl : ClassId) (fEl : Nat → Option Nat) (a0 : Nat) (sz_ : Nat) (mdc : Int32) (tl : List Nat) (sz : Nat) (hsz : sz_ + 3 ≤ 10) (zL : okL ad fEl sz_ tl) : Met l yX3_doGoes wsX3_doGoes ({ frames := 5, cells := 0, slots := 0, locals := 109 } : Room) (va_Pc [.ref a0, .int x, .ref bo] (fun U => U.heap.size = sz ∧ va_P (dC, dI) vwCl [(zo1iri bo mdc aEl (nI sz_)), (zaR aEl cEl 10 fEl)] U.heap ∧ va_K (dC, dI) vwCl [(cEl, .object "java/lang/Object")] U ∧ va_D (fun _ => True) [(zo1iri bo mdc aEl (nI sz_)), (zaR aEl cEl 10 fEl)] ∧ Gi ad cB bS (va_A [(zo1iri bo mdc aEl (nI sz_)), (zaR aEl cEl 10 fEl)] sz) U ∧ Gb (va_A [(zo1iri bo mdc aEl (nI sz_)), (zaR aEl cEl 10 fEl)] sz) U ∧ Gw (va_A [(zo1iri bo mdc aEl (nI sz_)), (zaR aEl cEl 10 fEl)] sz) U ∧ Fz dC dI [(zo6iiii a0 sk (nI i0) sv scl)] [] (va_A [(zo1iri bo mdc aEl (nI sz_)), (zaR aEl cEl 10 fEl)] sz) U)) (va_Qi (fun (r : Int32) (u : (Int32) × (Nat) × (Nat → Option Nat)) => match u with | (mdc9, sz_9, fEl9) => r = (x * 3 + nI i0) - sv ∧ sz_9 = sz_ + 3 ∧ okL ad fEl9 sz_9 (tl ++ [2, 11, 1])) (fun (u : (Int32) × (Nat) × (Nat → Option Nat)) (t : State) => match u with | (mdc9, sz_9, fEl9) => va_P (dC, dI) vwCl [(zo1iri bo mdc9 aEl (nI sz_9)), (zaR aEl cEl 10 fEl9)] t.heap ∧ va_K (dC, dI) vwCl [(cEl, .object "java/lang/Object")] t ∧ va_D (va_A [(zo1iri bo mdc aEl (nI sz_)), (zaR aEl cEl 10 fEl)] sz) [(zo1iri bo mdc9 aEl (nI sz_9)), (zaR aEl cEl 10 fEl9)]) (va_A [(zo1iri bo mdc aEl (nI sz_)), (zaR aEl cEl 10 fEl)] sz)) 0 0 (va_A [(zo1iri bo mdc aEl (nI sz_)), (zaR aEl cEl 10 fEl)] sz) := by
  refine met_ofQ (cc := cX3_doGoes) (maxL := 3) (ret := (some .int)) (by decide) rfl ?_
  intro p e s m args below meth c s₁ Q B hml hv hQ
  obtain ⟨rfl, hsz, hP, hK, hD0, hI_, hB_, hW_, hZ⟩ := hv
  have hx := B.exec
  have hb := B.bytes
  have hr := B.returns
  have hts := atoms_spec (ws := wsX3_doGoes) B.pre
  have hown : s.vm.findClass RX3 = some m.cls := findClass_of_methodNamed B.named
  have hlocks := B.notSynchronized
  subst hsz
  have hD := hD0.self (sz := s.heap.size)
  generalize hAe : va_A [(zo1iri bo mdc aEl (nI sz_)), (zaR aEl cEl 10 fEl)] s.heap.size = A at hD hQ hI_ hB_ hW_ hZ ⊢
  have hA : ∀ q : Nat, s.heap.size ≤ q → A q := fun q h => by rw [← hAe]; exact Or.inr h
  have hS : va_S A s.heap s.heap [] := va_S.rf
  have hl := lv_entry [.ref a0, .int x, .ref bo] (n := 3) (Nat.le_of_ble_eq_true rfl)
  rw [lg_entry_eq]
  generalize (lg_sl [.ref a0, .int x, .ref bo] ++ List.replicate (3 - (lg_sl [.ref a0, .int x, .ref bo]).length) Slot.unset).toArray = ls at hl ⊢
  generalize hag : ([.ref a0, .int x, .ref bo] : List Value).toArray = args at hts hQ ⊢
  have hl : lv_has ls 3 [(0, .ref a0), (1, .int x), (2, .ref bo)] := hl
  obtain ⟨H, hH⟩ : ∃ H : Heap, H = s.heap := ⟨_, rfl⟩
  rw [← hH] at hP
  rw [← hH]
  have hS : va_S A s.heap H [] := by rw [hH]; exact hS
  obtain ⟨locs, hlo⟩ : ∃ L : List Loc, L = [] := ⟨_, rfl⟩
  rw [← hlo] at hS
  rw [← hlo]
  clear hH hlo
  refine lv_iconst (v := 2) hx hb dX3_doGoes_0 (by decide) ?_
  refine lv_aload_n hx hb dX3_doGoes_1 rfl (lv_at hl 2 rfl) ?_
  have hPc := hP.sub (ws' := [(zo1iri bo mdc aEl (nI sz_)), (zaR aEl cEl 10 fEl)]) [0, 1] rfl
  have hDc := hD.sub (ws' := [(zo1iri bo mdc aEl (nI sz_)), (zaR aEl cEl 10 fEl)]) [0, 1] (by decide) rfl
  have hKc := hK.sub (tys' := [(cEl, .object "java/lang/Object")]) [0] rfl
  have hFc := va_free (wc := [(zo1iri bo mdc aEl (nI sz_)), (zaR aEl cEl 10 fEl)]) hD hS hA [0, 1] rfl
  refine va_callv (va_runS (As := [.int 2, .ref bo]) (rest := []) ⟨hx, hb, hml, hown, hts⟩ (c_begin1 l dC dI ad cB bS bo aEl 2 cEl fEl sz_ mdc tl H.size (by omega) (by omega) (zL)) (va_cwS 2 hts gX3_doGoes_X3_begin rfl rfl rfl hd_yX3_begin.2 ⟨Nat.le_of_ble_eq_true rfl, Nat.le_of_ble_eq_true rfl⟩) ⟨fun a U g mk q => by obtain ⟨q0, q1, qP, qK, qD, qhI_⟩ := q; exact ⟨q0, mvz g mk a q1, mvP g mk a qP, mvK g mk a qK, qD, qhI_.mv g mk a⟩, fun U hU hW => ⟨rfl, by rw [hU], by rw [hU]; exact hPc, va_K.moved hW.alike hKc, hDc.weaken (fun _ _ _ _ => trivial), hI_.call hS hU hW (fun q h => hFc q h)⟩⟩ rfl rfl hl.1 rfl (lv_room (Nat.le_of_ble_eq_true rfl)) dX3_doGoes_2 ⟨Nat.le_of_ble_eq_true rfl, Nat.le_of_ble_eq_true rfl⟩) hS (fun q _ h => hFc q h) hFc (fun u tC H1 locs htC hvm hw_2 hB hz1 hk1 hS => ?_)
  obtain ⟨mdc9_3, sz_9_4, fEl9_5⟩ := u
  try dsimp only at hw_2 hB
  obtain ⟨hP1, hK1, hD1⟩ := hB
  rw [htC] at hP1
  have hK1 := va_K.moved hvm.symm hK1
  obtain ⟨hP, hD⟩ := va_join (wr := []) (w1 := [(zo1iri bo mdc9_3 aEl (nI sz_9_4)), (zaR aEl cEl 10 fEl9_5)]) hP hD [0, 1] [] rfl rfl (by decide) (by decide) hk1 hFc hP1 hD1
  have hK := (hK.sub (tys' := []) [] rfl).app hK1
  generalize H1 = H at hP hS ⊢
  have hP : va_P (dC, dI) vwCl [(zo1iri bo mdc9_3 aEl (nI sz_9_4)), (zaR aEl cEl 10 fEl9_5)] H := hP
  have hD : va_D A [(zo1iri bo mdc9_3 aEl (nI sz_9_4)), (zaR aEl cEl 10 fEl9_5)] := hD
  have hK : va_K (dC, dI) vwCl [(cEl, .object "java/lang/Object")] s := hK
  obtain ⟨e_6, hL_7⟩ := hw_2
  obtain rfl := (e_6).symm
  refine lv_aload_n hx hb dX3_doGoes_5 rfl (lv_at hl 0 rfl) ?_
  refine lv_iload_n hx hb dX3_doGoes_6 rfl (lv_at hl 1 rfl) ?_
  refine lv_aload_n hx hb dX3_doGoes_7 rfl (lv_at hl 2 rfl) ?_
  have hPc := hP.sub (ws' := [(zo1iri bo mdc9_3 aEl (nI (sz_ + 1))), (zaR aEl cEl 10 fEl9_5)]) [0, 1] rfl
  have hDc := hD.sub (ws' := [(zo1iri bo mdc9_3 aEl (nI (sz_ + 1))), (zaR aEl cEl 10 fEl9_5)]) [0, 1] (by decide) rfl
  have hKc := hK.sub (tys' := [(cEl, .object "java/lang/Object")]) [0] rfl
  have hFc := va_free (wc := [(zo1iri bo mdc9_3 aEl (nI (sz_ + 1))), (zaR aEl cEl 10 fEl9_5)]) hD hS hA [0, 1] rfl
  refine va_calli (va_runU (As := [.int x, .ref bo]) (rest := []) ⟨hx, hb, hml, hown, hts⟩ (c_X4_doSees_X4_1 l dC dI ad cB bS    bo aEl i0 sk sv scl x cEl fEl9_5 a0 (sz_ + 1) mdc9_3 (tl ++ [2]) H.size (by omega) (hL_7)) (va_cwO 2 hts gX3_doGoes_X4_doSees_u38X4 rfl rfl rfl kc_X3_doGoes_X4_1_0 (by decide +kernel) ⟨Nat.le_of_ble_eq_true rfl, Nat.le_of_ble_eq_true rfl⟩) ⟨fun a U g mk q => by obtain ⟨q0, q1, qP, qK, qD, qhI_, qhB_, qhW_, qhZ⟩ := q; exact ⟨q0, mvz g mk a q1, mvP g mk a qP, mvK g mk a qK, qD, qhI_.mv g mk a, qhB_.mv g mk a, qhW_.mv g mk a, qhZ.mv g mk a⟩, va_recv hZ.2.1 (hZ.P hS) (ci := 6) (q := (RX4, TX4, 4)) (q0 := 0) rfl rfl, fun U hU hW => ⟨rfl, by rw [hU], by rw [hU]; exact hPc, va_K.moved hW.alike hKc, hDc.weaken (fun _ _ _ _ => trivial), hI_.call hS hU hW (fun q h => hFc q h), hB_.call hS hU hW (fun q h => hFc q h), hW_.call hS hU hW (fun q h => hFc q h), (hZ.sub [0] [] rfl rfl).call hS hU hW (fun q h => hFc q h)⟩⟩ rfl rfl hl.1 rfl (lv_room (Nat.le_of_ble_eq_true rfl)) dX3_doGoes_8 ⟨Nat.le_of_ble_eq_true rfl, Nat.le_of_ble_eq_true rfl⟩) hS (fun q _ h => hFc q h) hFc (fun r_8 u tC H1 locs htC hvm hw_9 hB hz1 hk1 hS => ?_)
  obtain ⟨mdc9_10, sz_9_11, fEl9_12⟩ := u
  try dsimp only at hw_9 hB
  obtain ⟨hP1, hK1, hD1⟩ := hB
  rw [htC] at hP1
  have hK1 := va_K.moved hvm.symm hK1
  obtain ⟨hP, hD⟩ := va_join (wr := []) (w1 := [(zo1iri bo mdc9_10 aEl (nI sz_9_11)), (zaR aEl cEl 10 fEl9_12)]) hP hD [0, 1] [] rfl rfl (by decide) (by decide) hk1 hFc hP1 hD1
  have hK := (hK.sub (tys' := []) [] rfl).app hK1
  generalize H1 = H at hP hS ⊢
  have hP : va_P (dC, dI) vwCl [(zo1iri bo mdc9_10 aEl (nI sz_9_11)), (zaR aEl cEl 10 fEl9_12)] H := hP
  have hD : va_D A [(zo1iri bo mdc9_10 aEl (nI sz_9_11)), (zaR aEl cEl 10 fEl9_12)] := hD
  have hK : va_K (dC, dI) vwCl [(cEl, .object "java/lang/Object")] s := hK
  obtain ⟨er_13, e_14, hL_15⟩ := hw_9
  obtain rfl := (e_14).symm
  subst er_13
  refine lv_aload_n hx hb dX3_doGoes_11 rfl (lv_at hl 0 rfl) ?_
  refine va_get (D := (dC, dI)) (ci := 6) (v := .int sv) (C := RX4) (T := TX4) (N := 4) hx hb hts kc_X3_doGoes_X4_1_2 hown hZ.2.1 (hZ.P hS) 0 rfl rfl 2 (by decide) (hts (.fieldLink RX3 18 "MistHeaps$Heap" "v" "I") kc_X3_doGoes_X4_1_1) (fun _ h9 => h9) rfl dX3_doGoes_12 ?_
  refine lv_isub hx hb dX3_doGoes_15 ?_
  rw [hQ]
  have hP9 := hP.sub (ws' := [(zo1iri bo mdc9_10 aEl (nI ((sz_ + 1) + 2))), (zaR aEl cEl 10 fEl9_12)]) [0, 1] rfl
  have hD9 := hD.sub (ws' := [(zo1iri bo mdc9_10 aEl (nI ((sz_ + 1) + 2))), (zaR aEl cEl 10 fEl9_12)]) [0, 1] (by decide) rfl
  have hK9 := hK.sub (tys' := [(cEl, .object "java/lang/Object")]) [0] rfl
  exact W.iret (v := (x * 3 + nI i0) - sv) hx hb hr (fun tQ htQ hWQ => ⟨⟨((x * 3 + nI i0) - sv), (mdc9_10, ((sz_ + 1) + 2), fEl9_12), rfl, ⟨rfl, by omega, by have h9 := okL_as (hL_15); exact h9⟩, by rw [htQ]; exact hP9, va_K.moved hWQ.alike hK9, hD9⟩, hS.F htQ⟩) hS.2.2 dX3_doGoes_16

theorem kc_X3_doGoes_X4_0_0 : (.code yX3_doSees cX3_doSees 3 (some .int) : Cond) ∈ wsX3_doGoes := kc_of 1025 rfl rfl rfl
theorem kc_X3_doGoes_X4_0_1 : (.fieldLink RX3 18 "MistHeaps$Heap" "v" "I" : Cond) ∈ wsX3_doGoes := kc_of 236 rfl rfl rfl
theorem kc_X3_doGoes_X4_0_2 : ∀ w ∈ wsX40, w ∈ wsX3_doGoes := fun w h => List.mem_cons_of_mem _ (gin_wsX40 w h)
set_option maxHeartbeats 4000000 in
set_option maxRecDepth 100000 in
theorem c_X3_doGoes_X4_0 (l : Launch) (dC : Nat → ClassId) (dI : Nat → Nat → Nat) (ad : Nat → Nat) (cB bS : Nat)    (bo : Nat) (i0 : Nat) (sk : Int32) (sv : Int32) (scl : Int32) (x : Int32) (a0 : Nat) (mdc : Int32) (sz : Nat) : Met l yX3_doGoes wsX3_doGoes ({ frames := 6, cells := 1, slots := 10, locals := 122 } : Room) (va_Pc [.ref a0, .int x, .ref bo] (fun U => U.heap.size = sz ∧ va_P (dC, dI) vwCl [(zo1iri bo mdc bS 0)] U.heap ∧ va_K (dC, dI) vwCl [] U ∧ va_D (fun _ => True) [(zo1iri bo mdc bS 0)] ∧ Gi ad cB bS (va_A [(zo1iri bo mdc bS 0)] sz) U ∧ Gb (va_A [(zo1iri bo mdc bS 0)] sz) U ∧ Gw (va_A [(zo1iri bo mdc bS 0)] sz) U ∧ Fz dC dI [(zo6iiii a0 sk (nI i0) sv scl)] [] (va_A [(zo1iri bo mdc bS 0)] sz) U)) (va_Qi (fun (r : Int32) (u : (Int32) × (Nat) × (ClassId) × (Nat) × (Nat → Option Nat)) => match u with | (mdc9, aEl9, cEl9, sz_9, fEl9) => r = (x * 3 + nI i0) - sv ∧ sz_9 = 3 ∧ okL ad fEl9 sz_9 [2, 11, 1]) (fun (u : (Int32) × (Nat) × (ClassId) × (Nat) × (Nat → Option Nat)) (t : State) => match u with | (mdc9, aEl9, cEl9, sz_9, fEl9) => va_P (dC, dI) vwCl [(zo1iri bo mdc9 aEl9 (nI sz_9)), (zaR aEl9 cEl9 10 fEl9)] t.heap ∧ va_K (dC, dI) vwCl [(cEl9, .object "java/lang/Object")] t ∧ va_D (va_A [(zo1iri bo mdc bS 0)] sz) [(zo1iri bo mdc9 aEl9 (nI sz_9)), (zaR aEl9 cEl9 10 fEl9)]) (va_A [(zo1iri bo mdc bS 0)] sz)) 1 10 (va_A [(zo1iri bo mdc bS 0)] sz) := by
  refine met_ofQ (cc := cX3_doGoes) (maxL := 3) (ret := (some .int)) (by decide) rfl ?_
  intro p e s m args below meth c s₁ Q B hml hv hQ
  obtain ⟨rfl, hsz, hP, hK, hD0, hI_, hB_, hW_, hZ⟩ := hv
  have hx := B.exec
  have hb := B.bytes
  have hr := B.returns
  have hts := atoms_spec (ws := wsX3_doGoes) B.pre
  have hown : s.vm.findClass RX3 = some m.cls := findClass_of_methodNamed B.named
  have hlocks := B.notSynchronized
  subst hsz
  have hD := hD0.self (sz := s.heap.size)
  generalize hAe : va_A [(zo1iri bo mdc bS 0)] s.heap.size = A at hD hQ hI_ hB_ hW_ hZ ⊢
  have hA : ∀ q : Nat, s.heap.size ≤ q → A q := fun q h => by rw [← hAe]; exact Or.inr h
  have hS : va_S A s.heap s.heap [] := va_S.rf
  have hl := lv_entry [.ref a0, .int x, .ref bo] (n := 3) (Nat.le_of_ble_eq_true rfl)
  rw [lg_entry_eq]
  generalize (lg_sl [.ref a0, .int x, .ref bo] ++ List.replicate (3 - (lg_sl [.ref a0, .int x, .ref bo]).length) Slot.unset).toArray = ls at hl ⊢
  generalize hag : ([.ref a0, .int x, .ref bo] : List Value).toArray = args at hts hQ ⊢
  have hl : lv_has ls 3 [(0, .ref a0), (1, .int x), (2, .ref bo)] := hl
  obtain ⟨H, hH⟩ : ∃ H : Heap, H = s.heap := ⟨_, rfl⟩
  rw [← hH] at hP
  rw [← hH]
  have hS : va_S A s.heap H [] := by rw [hH]; exact hS
  obtain ⟨locs, hlo⟩ : ∃ L : List Loc, L = [] := ⟨_, rfl⟩
  rw [← hlo] at hS
  rw [← hlo]
  clear hH hlo
  refine lv_iconst (v := 2) hx hb dX3_doGoes_0 (by decide) ?_
  refine lv_aload_n hx hb dX3_doGoes_1 rfl (lv_at hl 2 rfl) ?_
  have hPc := hP.sub (ws' := [(zo1iri bo mdc bS 0)]) [0] rfl
  have hDc := hD.sub (ws' := [(zo1iri bo mdc bS 0)]) [0] (by decide) rfl
  have hKc := hK.sub (tys' := []) [] rfl
  have hFc := va_free (wc := [(zo1iri bo mdc bS 0)]) hD hS hA [0] rfl
  refine va_callv (va_runS (As := [.int 2, .ref bo]) (rest := []) ⟨hx, hb, hml, hown, hts⟩ (c_begin0 l dC dI ad cB bS bo mdc 2 H.size (by omega)) (va_cwS 2 hts gX3_doGoes_X3_begin rfl rfl rfl hd_yX3_begin.2 ⟨Nat.le_of_ble_eq_true rfl, Nat.le_of_ble_eq_true rfl⟩) ⟨fun a U g mk q => by obtain ⟨q0, q1, qP, qK, qD, qhI_⟩ := q; exact ⟨q0, mvz g mk a q1, mvP g mk a qP, mvK g mk a qK, qD, qhI_.mv g mk a⟩, fun U hU hW => ⟨rfl, by rw [hU], by rw [hU]; exact hPc, va_K.moved hW.alike hKc, hDc.weaken (fun _ _ _ _ => trivial), hI_.call hS hU hW (fun q h => hFc q h)⟩⟩ rfl rfl hl.1 rfl (lv_room (Nat.le_of_ble_eq_true rfl)) dX3_doGoes_2 ⟨Nat.le_of_ble_eq_true rfl, Nat.le_of_ble_eq_true rfl⟩) hS (fun q _ h => hFc q h) hFc (fun u tC H1 locs htC hvm hw_2 hB hz1 hk1 hS => ?_)
  obtain ⟨mdc9_3, aEl9_4, cEl9_5, sz_9_6, fEl9_7⟩ := u
  try dsimp only at hw_2 hB
  obtain ⟨hP1, hK1, hD1⟩ := hB
  rw [htC] at hP1
  have hK1 := va_K.moved hvm.symm hK1
  obtain ⟨hP, hD⟩ := va_join (wr := []) (w1 := [(zo1iri bo mdc9_3 aEl9_4 (nI sz_9_6)), (zaR aEl9_4 cEl9_5 10 fEl9_7)]) hP hD [0] [] rfl rfl (by decide) (by decide) hk1 hFc hP1 hD1
  have hK := (hK.sub (tys' := []) [] rfl).app hK1
  generalize H1 = H at hP hS ⊢
  have hP : va_P (dC, dI) vwCl [(zo1iri bo mdc9_3 aEl9_4 (nI sz_9_6)), (zaR aEl9_4 cEl9_5 10 fEl9_7)] H := hP
  have hD : va_D A [(zo1iri bo mdc9_3 aEl9_4 (nI sz_9_6)), (zaR aEl9_4 cEl9_5 10 fEl9_7)] := hD
  have hK : va_K (dC, dI) vwCl [(cEl9_5, .object "java/lang/Object")] s := hK
  refine W.widen (k := 1) (n := 10) (by omega) (by omega) ?_
  obtain ⟨e_8, hL_9⟩ := hw_2
  obtain rfl := (e_8).symm
  refine lv_aload_n hx hb dX3_doGoes_5 rfl (lv_at hl 0 rfl) ?_
  refine lv_iload_n hx hb dX3_doGoes_6 rfl (lv_at hl 1 rfl) ?_
  refine lv_aload_n hx hb dX3_doGoes_7 rfl (lv_at hl 2 rfl) ?_
  have hPc := hP.sub (ws' := [(zo1iri bo mdc9_3 aEl9_4 (nI 1)), (zaR aEl9_4 cEl9_5 10 fEl9_7)]) [0, 1] rfl
  have hDc := hD.sub (ws' := [(zo1iri bo mdc9_3 aEl9_4 (nI 1)), (zaR aEl9_4 cEl9_5 10 fEl9_7)]) [0, 1] (by decide) rfl
  have hKc := hK.sub (tys' := [(cEl9_5, .object "java/lang/Object")]) [0] rfl
  have hFc := va_free (wc := [(zo1iri bo mdc9_3 aEl9_4 (nI 1)), (zaR aEl9_4 cEl9_5 10 fEl9_7)]) hD hS hA [0, 1] rfl
  refine va_calli (va_runU (As := [.int x, .ref bo]) (rest := []) ⟨hx, hb, hml, hown, hts⟩ (c_X4_doSees_X4_1 l dC dI ad cB bS    bo aEl9_4 i0 sk sv scl x cEl9_5 fEl9_7 a0 1 mdc9_3 ([2]) H.size (by omega) (hL_9)) (va_cwO 2 hts gX3_doGoes_X4_doSees_u38X4 rfl rfl rfl kc_X3_doGoes_X4_0_0 (by decide +kernel) ⟨Nat.le_of_ble_eq_true rfl, Nat.le_of_ble_eq_true rfl⟩) ⟨fun a U g mk q => by obtain ⟨q0, q1, qP, qK, qD, qhI_, qhB_, qhW_, qhZ⟩ := q; exact ⟨q0, mvz g mk a q1, mvP g mk a qP, mvK g mk a qK, qD, qhI_.mv g mk a, qhB_.mv g mk a, qhW_.mv g mk a, qhZ.mv g mk a⟩, va_recv hZ.2.1 (hZ.P hS) (ci := 6) (q := (RX4, TX4, 4)) (q0 := 0) rfl rfl, fun U hU hW => ⟨rfl, by rw [hU], by rw [hU]; exact hPc, va_K.moved hW.alike hKc, hDc.weaken (fun _ _ _ _ => trivial), hI_.call hS hU hW (fun q h => hFc q h), hB_.call hS hU hW (fun q h => hFc q h), hW_.call hS hU hW (fun q h => hFc q h), (hZ.sub [0] [] rfl rfl).call hS hU hW (fun q h => hFc q h)⟩⟩ rfl rfl hl.1 rfl (lv_room (Nat.le_of_ble_eq_true rfl)) dX3_doGoes_8 ⟨Nat.le_of_ble_eq_true rfl, Nat.le_of_ble_eq_true rfl⟩) hS (fun q _ h => hFc q h) hFc (fun r_10 u tC H1 locs htC hvm hw_11 hB hz1 hk1 hS => ?_)
  obtain ⟨mdc9_12, sz_9_13, fEl9_14⟩ := u
  try dsimp only at hw_11 hB
  obtain ⟨hP1, hK1, hD1⟩ := hB
  rw [htC] at hP1
  have hK1 := va_K.moved hvm.symm hK1
  obtain ⟨hP, hD⟩ := va_join (wr := []) (w1 := [(zo1iri bo mdc9_12 aEl9_4 (nI sz_9_13)), (zaR aEl9_4 cEl9_5 10 fEl9_14)]) hP hD [0, 1] [] rfl rfl (by decide) (by decide) hk1 hFc hP1 hD1
  have hK := (hK.sub (tys' := []) [] rfl).app hK1
  generalize H1 = H at hP hS ⊢
  have hP : va_P (dC, dI) vwCl [(zo1iri bo mdc9_12 aEl9_4 (nI sz_9_13)), (zaR aEl9_4 cEl9_5 10 fEl9_14)] H := hP
  have hD : va_D A [(zo1iri bo mdc9_12 aEl9_4 (nI sz_9_13)), (zaR aEl9_4 cEl9_5 10 fEl9_14)] := hD
  have hK : va_K (dC, dI) vwCl [(cEl9_5, .object "java/lang/Object")] s := hK
  obtain ⟨er_15, e_16, hL_17⟩ := hw_11
  obtain rfl := (e_16).symm
  subst er_15
  refine lv_aload_n hx hb dX3_doGoes_11 rfl (lv_at hl 0 rfl) ?_
  refine va_get (D := (dC, dI)) (ci := 6) (v := .int sv) (C := RX4) (T := TX4) (N := 4) hx hb hts kc_X3_doGoes_X4_0_2 hown hZ.2.1 (hZ.P hS) 0 rfl rfl 2 (by decide) (hts (.fieldLink RX3 18 "MistHeaps$Heap" "v" "I") kc_X3_doGoes_X4_0_1) (fun _ h9 => h9) rfl dX3_doGoes_12 ?_
  refine lv_isub hx hb dX3_doGoes_15 ?_
  rw [hQ]
  have hP9 := hP.sub (ws' := [(zo1iri bo mdc9_12 aEl9_4 (nI (1 + 2))), (zaR aEl9_4 cEl9_5 10 fEl9_14)]) [0, 1] rfl
  have hD9 := hD.sub (ws' := [(zo1iri bo mdc9_12 aEl9_4 (nI (1 + 2))), (zaR aEl9_4 cEl9_5 10 fEl9_14)]) [0, 1] (by decide) rfl
  have hK9 := hK.sub (tys' := [(cEl9_5, .object "java/lang/Object")]) [0] rfl
  refine W.widen (k := 1) (n := 10) (by omega) (by omega) ?_
  exact W.iret (v := (x * 3 + nI i0) - sv) hx hb hr (fun tQ htQ hWQ => ⟨⟨((x * 3 + nI i0) - sv), (mdc9_12, aEl9_4, cEl9_5, (1 + 2), fEl9_14), rfl, ⟨rfl, by omega, hL_17⟩, by rw [htQ]; exact hP9, va_K.moved hWQ.alike hK9, hD9⟩, hS.F htQ⟩) hS.2.2 dX3_doGoes_16

set_option maxHeartbeats 4000000 in
set_option maxRecDepth 100000 in
theorem c_X3_doLooks_X4_1 (l : Launch) (dC : Nat → ClassId) (dI : Nat → Nat → Nat) (ad : Nat → Nat) (cB bS : Nat)    (bo : Nat) (aEl : Nat) (i0 : Nat) (sk : Int32) (sv : Int32) (scl : Int32) (x : Int32) (cEl : ClassId) (fEl : Nat → Option Nat) (a0 : Nat) (sz_ : Nat) (mdc : Int32) (tl : List Nat) (sz : Nat) (hsz : sz_ + 4 ≤ 10) (zL : okL ad fEl sz_ tl) : Met l yX3_doLooks wsX3_doLooks ({ frames := 6, cells := 0, slots := 0, locals := 131 } : Room) (va_Pc [.ref a0, .int x, .ref bo] (fun U => U.heap.size = sz ∧ va_P (dC, dI) vwCl [(zo1iri bo mdc aEl (nI sz_)), (zaR aEl cEl 10 fEl)] U.heap ∧ va_K (dC, dI) vwCl [(cEl, .object "java/lang/Object")] U ∧ va_D (fun _ => True) [(zo1iri bo mdc aEl (nI sz_)), (zaR aEl cEl 10 fEl)] ∧ Gi ad cB bS (va_A [(zo1iri bo mdc aEl (nI sz_)), (zaR aEl cEl 10 fEl)] sz) U ∧ Gb (va_A [(zo1iri bo mdc aEl (nI sz_)), (zaR aEl cEl 10 fEl)] sz) U ∧ Gw (va_A [(zo1iri bo mdc aEl (nI sz_)), (zaR aEl cEl 10 fEl)] sz) U ∧ Fz dC dI [(zo6iiii a0 sk (nI i0) sv scl)] [] (va_A [(zo1iri bo mdc aEl (nI sz_)), (zaR aEl cEl 10 fEl)] sz) U)) (va_Qi (fun (r : Int32) (u : (Int32) × (Nat) × (Nat → Option Nat)) => match u with | (mdc9, sz_9, fEl9) => r = ((x * 3 + nI i0) - sv) * 2 ∧ sz_9 = sz_ + 4 ∧ okL ad fEl9 sz_9 (tl ++ [3, 2, 11, 1])) (fun (u : (Int32) × (Nat) × (Nat → Option Nat)) (t : State) => match u with | (mdc9, sz_9, fEl9) => va_P (dC, dI) vwCl [(zo1iri bo mdc9 aEl (nI sz_9)), (zaR aEl cEl 10 fEl9)] t.heap ∧ va_K (dC, dI) vwCl [(cEl, .object "java/lang/Object")] t ∧ va_D (va_A [(zo1iri bo mdc aEl (nI sz_)), (zaR aEl cEl 10 fEl)] sz) [(zo1iri bo mdc9 aEl (nI sz_9)), (zaR aEl cEl 10 fEl9)]) (va_A [(zo1iri bo mdc aEl (nI sz_)), (zaR aEl cEl 10 fEl)] sz)) 0 0 (va_A [(zo1iri bo mdc aEl (nI sz_)), (zaR aEl cEl 10 fEl)] sz) := by
  refine met_ofQ (cc := cX3_doLooks) (maxL := 3) (ret := (some .int)) (by decide) rfl ?_
  intro p e s m args below meth c s₁ Q B hml hv hQ
  obtain ⟨rfl, hsz, hP, hK, hD0, hI_, hB_, hW_, hZ⟩ := hv
  have hx := B.exec
  have hb := B.bytes
  have hr := B.returns
  have hts := atoms_spec (ws := wsX3_doLooks) B.pre
  have hown : s.vm.findClass RX3 = some m.cls := findClass_of_methodNamed B.named
  have hlocks := B.notSynchronized
  subst hsz
  have hD := hD0.self (sz := s.heap.size)
  generalize hAe : va_A [(zo1iri bo mdc aEl (nI sz_)), (zaR aEl cEl 10 fEl)] s.heap.size = A at hD hQ hI_ hB_ hW_ hZ ⊢
  have hA : ∀ q : Nat, s.heap.size ≤ q → A q := fun q h => by rw [← hAe]; exact Or.inr h
  have hS : va_S A s.heap s.heap [] := va_S.rf
  have hl := lv_entry [.ref a0, .int x, .ref bo] (n := 3) (Nat.le_of_ble_eq_true rfl)
  rw [lg_entry_eq]
  generalize (lg_sl [.ref a0, .int x, .ref bo] ++ List.replicate (3 - (lg_sl [.ref a0, .int x, .ref bo]).length) Slot.unset).toArray = ls at hl ⊢
  generalize hag : ([.ref a0, .int x, .ref bo] : List Value).toArray = args at hts hQ ⊢
  have hl : lv_has ls 3 [(0, .ref a0), (1, .int x), (2, .ref bo)] := hl
  obtain ⟨H, hH⟩ : ∃ H : Heap, H = s.heap := ⟨_, rfl⟩
  rw [← hH] at hP
  rw [← hH]
  have hS : va_S A s.heap H [] := by rw [hH]; exact hS
  obtain ⟨locs, hlo⟩ : ∃ L : List Loc, L = [] := ⟨_, rfl⟩
  rw [← hlo] at hS
  rw [← hlo]
  clear hH hlo
  refine lv_iconst (v := 3) hx hb dX3_doLooks_0 (by decide) ?_
  refine lv_aload_n hx hb dX3_doLooks_1 rfl (lv_at hl 2 rfl) ?_
  have hPc := hP.sub (ws' := [(zo1iri bo mdc aEl (nI sz_)), (zaR aEl cEl 10 fEl)]) [0, 1] rfl
  have hDc := hD.sub (ws' := [(zo1iri bo mdc aEl (nI sz_)), (zaR aEl cEl 10 fEl)]) [0, 1] (by decide) rfl
  have hKc := hK.sub (tys' := [(cEl, .object "java/lang/Object")]) [0] rfl
  have hFc := va_free (wc := [(zo1iri bo mdc aEl (nI sz_)), (zaR aEl cEl 10 fEl)]) hD hS hA [0, 1] rfl
  refine va_callv (va_runS (As := [.int 3, .ref bo]) (rest := []) ⟨hx, hb, hml, hown, hts⟩ (c_begin1 l dC dI ad cB bS bo aEl 3 cEl fEl sz_ mdc tl H.size (by omega) (by omega) (zL)) (va_cwS 2 hts gX3_doLooks_X3_begin rfl rfl rfl hd_yX3_begin.2 ⟨Nat.le_of_ble_eq_true rfl, Nat.le_of_ble_eq_true rfl⟩) ⟨fun a U g mk q => by obtain ⟨q0, q1, qP, qK, qD, qhI_⟩ := q; exact ⟨q0, mvz g mk a q1, mvP g mk a qP, mvK g mk a qK, qD, qhI_.mv g mk a⟩, fun U hU hW => ⟨rfl, by rw [hU], by rw [hU]; exact hPc, va_K.moved hW.alike hKc, hDc.weaken (fun _ _ _ _ => trivial), hI_.call hS hU hW (fun q h => hFc q h)⟩⟩ rfl rfl hl.1 rfl (lv_room (Nat.le_of_ble_eq_true rfl)) dX3_doLooks_2 ⟨Nat.le_of_ble_eq_true rfl, Nat.le_of_ble_eq_true rfl⟩) hS (fun q _ h => hFc q h) hFc (fun u tC H1 locs htC hvm hw_2 hB hz1 hk1 hS => ?_)
  obtain ⟨mdc9_3, sz_9_4, fEl9_5⟩ := u
  try dsimp only at hw_2 hB
  obtain ⟨hP1, hK1, hD1⟩ := hB
  rw [htC] at hP1
  have hK1 := va_K.moved hvm.symm hK1
  obtain ⟨hP, hD⟩ := va_join (wr := []) (w1 := [(zo1iri bo mdc9_3 aEl (nI sz_9_4)), (zaR aEl cEl 10 fEl9_5)]) hP hD [0, 1] [] rfl rfl (by decide) (by decide) hk1 hFc hP1 hD1
  have hK := (hK.sub (tys' := []) [] rfl).app hK1
  generalize H1 = H at hP hS ⊢
  have hP : va_P (dC, dI) vwCl [(zo1iri bo mdc9_3 aEl (nI sz_9_4)), (zaR aEl cEl 10 fEl9_5)] H := hP
  have hD : va_D A [(zo1iri bo mdc9_3 aEl (nI sz_9_4)), (zaR aEl cEl 10 fEl9_5)] := hD
  have hK : va_K (dC, dI) vwCl [(cEl, .object "java/lang/Object")] s := hK
  obtain ⟨e_6, hL_7⟩ := hw_2
  obtain rfl := (e_6).symm
  refine lv_aload_n hx hb dX3_doLooks_5 rfl (lv_at hl 0 rfl) ?_
  refine lv_iload_n hx hb dX3_doLooks_6 rfl (lv_at hl 1 rfl) ?_
  refine lv_aload_n hx hb dX3_doLooks_7 rfl (lv_at hl 2 rfl) ?_
  have hPc := hP.sub (ws' := [(zo1iri bo mdc9_3 aEl (nI (sz_ + 1))), (zaR aEl cEl 10 fEl9_5)]) [0, 1] rfl
  have hDc := hD.sub (ws' := [(zo1iri bo mdc9_3 aEl (nI (sz_ + 1))), (zaR aEl cEl 10 fEl9_5)]) [0, 1] (by decide) rfl
  have hKc := hK.sub (tys' := [(cEl, .object "java/lang/Object")]) [0] rfl
  have hFc := va_free (wc := [(zo1iri bo mdc9_3 aEl (nI (sz_ + 1))), (zaR aEl cEl 10 fEl9_5)]) hD hS hA [0, 1] rfl
  refine va_calli (va_runU (As := [.int x, .ref bo]) (rest := []) ⟨hx, hb, hml, hown, hts⟩ (c_X3_doGoes_X4_1 l dC dI ad cB bS    bo aEl i0 sk sv scl x cEl fEl9_5 a0 (sz_ + 1) mdc9_3 (tl ++ [3]) H.size (by omega) (hL_7)) (va_cwU 2 hts gX3_doLooks_X3_doGoes_u42X4 rfl rfl rfl rfl (by decide +kernel) ⟨Nat.le_of_ble_eq_true rfl, Nat.le_of_ble_eq_true rfl⟩) ⟨fun a U g mk q => by obtain ⟨q0, q1, qP, qK, qD, qhI_, qhB_, qhW_, qhZ⟩ := q; exact ⟨q0, mvz g mk a q1, mvP g mk a qP, mvK g mk a qK, qD, qhI_.mv g mk a, qhB_.mv g mk a, qhW_.mv g mk a, qhZ.mv g mk a⟩, va_recv hZ.2.1 (hZ.P hS) (ci := 6) (q := (RX4, TX4, 4)) (q0 := 0) rfl rfl, fun U hU hW => ⟨rfl, by rw [hU], by rw [hU]; exact hPc, va_K.moved hW.alike hKc, hDc.weaken (fun _ _ _ _ => trivial), hI_.call hS hU hW (fun q h => hFc q h), hB_.call hS hU hW (fun q h => hFc q h), hW_.call hS hU hW (fun q h => hFc q h), (hZ.sub [0] [] rfl rfl).call hS hU hW (fun q h => hFc q h)⟩⟩ rfl rfl hl.1 rfl (lv_room (Nat.le_of_ble_eq_true rfl)) dX3_doLooks_8 ⟨Nat.le_of_ble_eq_true rfl, Nat.le_of_ble_eq_true rfl⟩) hS (fun q _ h => hFc q h) hFc (fun r_8 u tC H1 locs htC hvm hw_9 hB hz1 hk1 hS => ?_)
  obtain ⟨mdc9_10, sz_9_11, fEl9_12⟩ := u
  try dsimp only at hw_9 hB
  obtain ⟨hP1, hK1, hD1⟩ := hB
  rw [htC] at hP1
  have hK1 := va_K.moved hvm.symm hK1
  obtain ⟨hP, hD⟩ := va_join (wr := []) (w1 := [(zo1iri bo mdc9_10 aEl (nI sz_9_11)), (zaR aEl cEl 10 fEl9_12)]) hP hD [0, 1] [] rfl rfl (by decide) (by decide) hk1 hFc hP1 hD1
  have hK := (hK.sub (tys' := []) [] rfl).app hK1
  generalize H1 = H at hP hS ⊢
  have hP : va_P (dC, dI) vwCl [(zo1iri bo mdc9_10 aEl (nI sz_9_11)), (zaR aEl cEl 10 fEl9_12)] H := hP
  have hD : va_D A [(zo1iri bo mdc9_10 aEl (nI sz_9_11)), (zaR aEl cEl 10 fEl9_12)] := hD
  have hK : va_K (dC, dI) vwCl [(cEl, .object "java/lang/Object")] s := hK
  obtain ⟨er_13, e_14, hL_15⟩ := hw_9
  obtain rfl := (e_14).symm
  subst er_13
  refine lv_iconst (v := 2) hx hb dX3_doLooks_11 (by decide) ?_
  refine lv_imul hx hb dX3_doLooks_12 ?_
  rw [hQ]
  have hP9 := hP.sub (ws' := [(zo1iri bo mdc9_10 aEl (nI ((sz_ + 1) + 3))), (zaR aEl cEl 10 fEl9_12)]) [0, 1] rfl
  have hD9 := hD.sub (ws' := [(zo1iri bo mdc9_10 aEl (nI ((sz_ + 1) + 3))), (zaR aEl cEl 10 fEl9_12)]) [0, 1] (by decide) rfl
  have hK9 := hK.sub (tys' := [(cEl, .object "java/lang/Object")]) [0] rfl
  exact W.iret (v := ((x * 3 + nI i0) - sv) * 2) hx hb hr (fun tQ htQ hWQ => ⟨⟨(((x * 3 + nI i0) - sv) * 2), (mdc9_10, ((sz_ + 1) + 3), fEl9_12), rfl, ⟨rfl, by omega, by have h9 := okL_as (hL_15); exact h9⟩, by rw [htQ]; exact hP9, va_K.moved hWQ.alike hK9, hD9⟩, hS.F htQ⟩) hS.2.2 dX3_doLooks_13

set_option maxHeartbeats 4000000 in
set_option maxRecDepth 100000 in
theorem c_X3_doLooks_X4_0 (l : Launch) (dC : Nat → ClassId) (dI : Nat → Nat → Nat) (ad : Nat → Nat) (cB bS : Nat)    (bo : Nat) (i0 : Nat) (sk : Int32) (sv : Int32) (scl : Int32) (x : Int32) (a0 : Nat) (mdc : Int32) (sz : Nat) : Met l yX3_doLooks wsX3_doLooks ({ frames := 6, cells := 1, slots := 10, locals := 131 } : Room) (va_Pc [.ref a0, .int x, .ref bo] (fun U => U.heap.size = sz ∧ va_P (dC, dI) vwCl [(zo1iri bo mdc bS 0)] U.heap ∧ va_K (dC, dI) vwCl [] U ∧ va_D (fun _ => True) [(zo1iri bo mdc bS 0)] ∧ Gi ad cB bS (va_A [(zo1iri bo mdc bS 0)] sz) U ∧ Gb (va_A [(zo1iri bo mdc bS 0)] sz) U ∧ Gw (va_A [(zo1iri bo mdc bS 0)] sz) U ∧ Fz dC dI [(zo6iiii a0 sk (nI i0) sv scl)] [] (va_A [(zo1iri bo mdc bS 0)] sz) U)) (va_Qi (fun (r : Int32) (u : (Int32) × (Nat) × (ClassId) × (Nat) × (Nat → Option Nat)) => match u with | (mdc9, aEl9, cEl9, sz_9, fEl9) => r = ((x * 3 + nI i0) - sv) * 2 ∧ sz_9 = 4 ∧ okL ad fEl9 sz_9 [3, 2, 11, 1]) (fun (u : (Int32) × (Nat) × (ClassId) × (Nat) × (Nat → Option Nat)) (t : State) => match u with | (mdc9, aEl9, cEl9, sz_9, fEl9) => va_P (dC, dI) vwCl [(zo1iri bo mdc9 aEl9 (nI sz_9)), (zaR aEl9 cEl9 10 fEl9)] t.heap ∧ va_K (dC, dI) vwCl [(cEl9, .object "java/lang/Object")] t ∧ va_D (va_A [(zo1iri bo mdc bS 0)] sz) [(zo1iri bo mdc9 aEl9 (nI sz_9)), (zaR aEl9 cEl9 10 fEl9)]) (va_A [(zo1iri bo mdc bS 0)] sz)) 1 10 (va_A [(zo1iri bo mdc bS 0)] sz) := by
  refine met_ofQ (cc := cX3_doLooks) (maxL := 3) (ret := (some .int)) (by decide) rfl ?_
  intro p e s m args below meth c s₁ Q B hml hv hQ
  obtain ⟨rfl, hsz, hP, hK, hD0, hI_, hB_, hW_, hZ⟩ := hv
  have hx := B.exec
  have hb := B.bytes
  have hr := B.returns
  have hts := atoms_spec (ws := wsX3_doLooks) B.pre
  have hown : s.vm.findClass RX3 = some m.cls := findClass_of_methodNamed B.named
  have hlocks := B.notSynchronized
  subst hsz
  have hD := hD0.self (sz := s.heap.size)
  generalize hAe : va_A [(zo1iri bo mdc bS 0)] s.heap.size = A at hD hQ hI_ hB_ hW_ hZ ⊢
  have hA : ∀ q : Nat, s.heap.size ≤ q → A q := fun q h => by rw [← hAe]; exact Or.inr h
  have hS : va_S A s.heap s.heap [] := va_S.rf
  have hl := lv_entry [.ref a0, .int x, .ref bo] (n := 3) (Nat.le_of_ble_eq_true rfl)
  rw [lg_entry_eq]
  generalize (lg_sl [.ref a0, .int x, .ref bo] ++ List.replicate (3 - (lg_sl [.ref a0, .int x, .ref bo]).length) Slot.unset).toArray = ls at hl ⊢
  generalize hag : ([.ref a0, .int x, .ref bo] : List Value).toArray = args at hts hQ ⊢
  have hl : lv_has ls 3 [(0, .ref a0), (1, .int x), (2, .ref bo)] := hl
  obtain ⟨H, hH⟩ : ∃ H : Heap, H = s.heap := ⟨_, rfl⟩
  rw [← hH] at hP
  rw [← hH]
  have hS : va_S A s.heap H [] := by rw [hH]; exact hS
  obtain ⟨locs, hlo⟩ : ∃ L : List Loc, L = [] := ⟨_, rfl⟩
  rw [← hlo] at hS
  rw [← hlo]
  clear hH hlo
  refine lv_iconst (v := 3) hx hb dX3_doLooks_0 (by decide) ?_
  refine lv_aload_n hx hb dX3_doLooks_1 rfl (lv_at hl 2 rfl) ?_
  have hPc := hP.sub (ws' := [(zo1iri bo mdc bS 0)]) [0] rfl
  have hDc := hD.sub (ws' := [(zo1iri bo mdc bS 0)]) [0] (by decide) rfl
  have hKc := hK.sub (tys' := []) [] rfl
  have hFc := va_free (wc := [(zo1iri bo mdc bS 0)]) hD hS hA [0] rfl
  refine va_callv (va_runS (As := [.int 3, .ref bo]) (rest := []) ⟨hx, hb, hml, hown, hts⟩ (c_begin0 l dC dI ad cB bS bo mdc 3 H.size (by omega)) (va_cwS 2 hts gX3_doLooks_X3_begin rfl rfl rfl hd_yX3_begin.2 ⟨Nat.le_of_ble_eq_true rfl, Nat.le_of_ble_eq_true rfl⟩) ⟨fun a U g mk q => by obtain ⟨q0, q1, qP, qK, qD, qhI_⟩ := q; exact ⟨q0, mvz g mk a q1, mvP g mk a qP, mvK g mk a qK, qD, qhI_.mv g mk a⟩, fun U hU hW => ⟨rfl, by rw [hU], by rw [hU]; exact hPc, va_K.moved hW.alike hKc, hDc.weaken (fun _ _ _ _ => trivial), hI_.call hS hU hW (fun q h => hFc q h)⟩⟩ rfl rfl hl.1 rfl (lv_room (Nat.le_of_ble_eq_true rfl)) dX3_doLooks_2 ⟨Nat.le_of_ble_eq_true rfl, Nat.le_of_ble_eq_true rfl⟩) hS (fun q _ h => hFc q h) hFc (fun u tC H1 locs htC hvm hw_2 hB hz1 hk1 hS => ?_)
  obtain ⟨mdc9_3, aEl9_4, cEl9_5, sz_9_6, fEl9_7⟩ := u
  try dsimp only at hw_2 hB
  obtain ⟨hP1, hK1, hD1⟩ := hB
  rw [htC] at hP1
  have hK1 := va_K.moved hvm.symm hK1
  obtain ⟨hP, hD⟩ := va_join (wr := []) (w1 := [(zo1iri bo mdc9_3 aEl9_4 (nI sz_9_6)), (zaR aEl9_4 cEl9_5 10 fEl9_7)]) hP hD [0] [] rfl rfl (by decide) (by decide) hk1 hFc hP1 hD1
  have hK := (hK.sub (tys' := []) [] rfl).app hK1
  generalize H1 = H at hP hS ⊢
  have hP : va_P (dC, dI) vwCl [(zo1iri bo mdc9_3 aEl9_4 (nI sz_9_6)), (zaR aEl9_4 cEl9_5 10 fEl9_7)] H := hP
  have hD : va_D A [(zo1iri bo mdc9_3 aEl9_4 (nI sz_9_6)), (zaR aEl9_4 cEl9_5 10 fEl9_7)] := hD
  have hK : va_K (dC, dI) vwCl [(cEl9_5, .object "java/lang/Object")] s := hK
  refine W.widen (k := 1) (n := 10) (by omega) (by omega) ?_
  obtain ⟨e_8, hL_9⟩ := hw_2
  obtain rfl := (e_8).symm
  refine lv_aload_n hx hb dX3_doLooks_5 rfl (lv_at hl 0 rfl) ?_
  refine lv_iload_n hx hb dX3_doLooks_6 rfl (lv_at hl 1 rfl) ?_
  refine lv_aload_n hx hb dX3_doLooks_7 rfl (lv_at hl 2 rfl) ?_
  have hPc := hP.sub (ws' := [(zo1iri bo mdc9_3 aEl9_4 (nI 1)), (zaR aEl9_4 cEl9_5 10 fEl9_7)]) [0, 1] rfl
  have hDc := hD.sub (ws' := [(zo1iri bo mdc9_3 aEl9_4 (nI 1)), (zaR aEl9_4 cEl9_5 10 fEl9_7)]) [0, 1] (by decide) rfl
  have hKc := hK.sub (tys' := [(cEl9_5, .object "java/lang/Object")]) [0] rfl
  have hFc := va_free (wc := [(zo1iri bo mdc9_3 aEl9_4 (nI 1)), (zaR aEl9_4 cEl9_5 10 fEl9_7)]) hD hS hA [0, 1] rfl
  refine va_calli (va_runU (As := [.int x, .ref bo]) (rest := []) ⟨hx, hb, hml, hown, hts⟩ (c_X3_doGoes_X4_1 l dC dI ad cB bS    bo aEl9_4 i0 sk sv scl x cEl9_5 fEl9_7 a0 1 mdc9_3 ([3]) H.size (by omega) (hL_9)) (va_cwU 2 hts gX3_doLooks_X3_doGoes_u42X4 rfl rfl rfl rfl (by decide +kernel) ⟨Nat.le_of_ble_eq_true rfl, Nat.le_of_ble_eq_true rfl⟩) ⟨fun a U g mk q => by obtain ⟨q0, q1, qP, qK, qD, qhI_, qhB_, qhW_, qhZ⟩ := q; exact ⟨q0, mvz g mk a q1, mvP g mk a qP, mvK g mk a qK, qD, qhI_.mv g mk a, qhB_.mv g mk a, qhW_.mv g mk a, qhZ.mv g mk a⟩, va_recv hZ.2.1 (hZ.P hS) (ci := 6) (q := (RX4, TX4, 4)) (q0 := 0) rfl rfl, fun U hU hW => ⟨rfl, by rw [hU], by rw [hU]; exact hPc, va_K.moved hW.alike hKc, hDc.weaken (fun _ _ _ _ => trivial), hI_.call hS hU hW (fun q h => hFc q h), hB_.call hS hU hW (fun q h => hFc q h), hW_.call hS hU hW (fun q h => hFc q h), (hZ.sub [0] [] rfl rfl).call hS hU hW (fun q h => hFc q h)⟩⟩ rfl rfl hl.1 rfl (lv_room (Nat.le_of_ble_eq_true rfl)) dX3_doLooks_8 ⟨Nat.le_of_ble_eq_true rfl, Nat.le_of_ble_eq_true rfl⟩) hS (fun q _ h => hFc q h) hFc (fun r_10 u tC H1 locs htC hvm hw_11 hB hz1 hk1 hS => ?_)
  obtain ⟨mdc9_12, sz_9_13, fEl9_14⟩ := u
  try dsimp only at hw_11 hB
  obtain ⟨hP1, hK1, hD1⟩ := hB
  rw [htC] at hP1
  have hK1 := va_K.moved hvm.symm hK1
  obtain ⟨hP, hD⟩ := va_join (wr := []) (w1 := [(zo1iri bo mdc9_12 aEl9_4 (nI sz_9_13)), (zaR aEl9_4 cEl9_5 10 fEl9_14)]) hP hD [0, 1] [] rfl rfl (by decide) (by decide) hk1 hFc hP1 hD1
  have hK := (hK.sub (tys' := []) [] rfl).app hK1
  generalize H1 = H at hP hS ⊢
  have hP : va_P (dC, dI) vwCl [(zo1iri bo mdc9_12 aEl9_4 (nI sz_9_13)), (zaR aEl9_4 cEl9_5 10 fEl9_14)] H := hP
  have hD : va_D A [(zo1iri bo mdc9_12 aEl9_4 (nI sz_9_13)), (zaR aEl9_4 cEl9_5 10 fEl9_14)] := hD
  have hK : va_K (dC, dI) vwCl [(cEl9_5, .object "java/lang/Object")] s := hK
  obtain ⟨er_15, e_16, hL_17⟩ := hw_11
  obtain rfl := (e_16).symm
  subst er_15
  refine lv_iconst (v := 2) hx hb dX3_doLooks_11 (by decide) ?_
  refine lv_imul hx hb dX3_doLooks_12 ?_
  rw [hQ]
  have hP9 := hP.sub (ws' := [(zo1iri bo mdc9_12 aEl9_4 (nI (1 + 3))), (zaR aEl9_4 cEl9_5 10 fEl9_14)]) [0, 1] rfl
  have hD9 := hD.sub (ws' := [(zo1iri bo mdc9_12 aEl9_4 (nI (1 + 3))), (zaR aEl9_4 cEl9_5 10 fEl9_14)]) [0, 1] (by decide) rfl
  have hK9 := hK.sub (tys' := [(cEl9_5, .object "java/lang/Object")]) [0] rfl
  refine W.widen (k := 1) (n := 10) (by omega) (by omega) ?_
  exact W.iret (v := ((x * 3 + nI i0) - sv) * 2) hx hb hr (fun tQ htQ hWQ => ⟨⟨(((x * 3 + nI i0) - sv) * 2), (mdc9_12, aEl9_4, cEl9_5, (1 + 3), fEl9_14), rfl, ⟨rfl, by omega, hL_17⟩, by rw [htQ]; exact hP9, va_K.moved hWQ.alike hK9, hD9⟩, hS.F htQ⟩) hS.2.2 dX3_doLooks_13

theorem kc_X3_doSees_X6_1_0 : (.fieldLink RX3 15 "MistHeaps$Heap" "number" "I" : Cond) ∈ wsX3_doSees := kc_of 231 rfl rfl rfl
theorem kc_X3_doSees_X6_1_1 : ∀ w ∈ wsX60, w ∈ wsX3_doSees := fun w h => List.mem_cons_of_mem _ (gin_wsX60 w h)
set_option maxHeartbeats 4000000 in
set_option maxRecDepth 100000 in
theorem c_X3_doSees_X6_1 (l : Launch) (dC : Nat → ClassId) (dI : Nat → Nat → Nat) (ad : Nat → Nat) (cB bS : Nat)    (bo : Nat) (aEl : Nat) (i0 : Nat) (sk : Int32) (sv : Int32) (scl : Int32) (x : Int32) (cEl : ClassId) (fEl : Nat → Option Nat) (a0 : Nat) (sz_ : Nat) (mdc : Int32) (tl : List Nat) (sz : Nat) (hsz : sz_ + 1 ≤ 10) (zL : okL ad fEl sz_ tl) : Met l yX3_doSees wsX3_doSees ({ frames := 3, cells := 0, slots := 0, locals := 65 } : Room) (va_Pc [.ref a0, .int x, .ref bo] (fun U => U.heap.size = sz ∧ va_P (dC, dI) vwCl [(zo1iri bo mdc aEl (nI sz_)), (zaR aEl cEl 10 fEl)] U.heap ∧ va_K (dC, dI) vwCl [(cEl, .object "java/lang/Object")] U ∧ va_D (fun _ => True) [(zo1iri bo mdc aEl (nI sz_)), (zaR aEl cEl 10 fEl)] ∧ Gi ad cB bS (va_A [(zo1iri bo mdc aEl (nI sz_)), (zaR aEl cEl 10 fEl)] sz) U ∧ Gb (va_A [(zo1iri bo mdc aEl (nI sz_)), (zaR aEl cEl 10 fEl)] sz) U ∧ Gw (va_A [(zo1iri bo mdc aEl (nI sz_)), (zaR aEl cEl 10 fEl)] sz) U ∧ Fz dC dI [(zo8iiii a0 sk (nI i0) sv scl)] [] (va_A [(zo1iri bo mdc aEl (nI sz_)), (zaR aEl cEl 10 fEl)] sz) U)) (va_Qi (fun (r : Int32) (u : (Int32) × (Nat) × (Nat → Option Nat)) => match u with | (mdc9, sz_9, fEl9) => r = x + nI i0 ∧ sz_9 = sz_ + 1 ∧ okL ad fEl9 sz_9 (tl ++ [1])) (fun (u : (Int32) × (Nat) × (Nat → Option Nat)) (t : State) => match u with | (mdc9, sz_9, fEl9) => va_P (dC, dI) vwCl [(zo1iri bo mdc9 aEl (nI sz_9)), (zaR aEl cEl 10 fEl9)] t.heap ∧ va_K (dC, dI) vwCl [(cEl, .object "java/lang/Object")] t ∧ va_D (va_A [(zo1iri bo mdc aEl (nI sz_)), (zaR aEl cEl 10 fEl)] sz) [(zo1iri bo mdc9 aEl (nI sz_9)), (zaR aEl cEl 10 fEl9)]) (va_A [(zo1iri bo mdc aEl (nI sz_)), (zaR aEl cEl 10 fEl)] sz)) 0 0 (va_A [(zo1iri bo mdc aEl (nI sz_)), (zaR aEl cEl 10 fEl)] sz) := by
  refine met_ofQ (cc := cX3_doSees) (maxL := 3) (ret := (some .int)) (by decide) rfl ?_
  intro p e s m args below meth c s₁ Q B hml hv hQ
  obtain ⟨rfl, hsz, hP, hK, hD0, hI_, hB_, hW_, hZ⟩ := hv
  have hx := B.exec
  have hb := B.bytes
  have hr := B.returns
  have hts := atoms_spec (ws := wsX3_doSees) B.pre
  have hown : s.vm.findClass RX3 = some m.cls := findClass_of_methodNamed B.named
  have hlocks := B.notSynchronized
  subst hsz
  have hD := hD0.self (sz := s.heap.size)
  generalize hAe : va_A [(zo1iri bo mdc aEl (nI sz_)), (zaR aEl cEl 10 fEl)] s.heap.size = A at hD hQ hI_ hB_ hW_ hZ ⊢
  have hA : ∀ q : Nat, s.heap.size ≤ q → A q := fun q h => by rw [← hAe]; exact Or.inr h
  have hS : va_S A s.heap s.heap [] := va_S.rf
  have hl := lv_entry [.ref a0, .int x, .ref bo] (n := 3) (Nat.le_of_ble_eq_true rfl)
  rw [lg_entry_eq]
  generalize (lg_sl [.ref a0, .int x, .ref bo] ++ List.replicate (3 - (lg_sl [.ref a0, .int x, .ref bo]).length) Slot.unset).toArray = ls at hl ⊢
  generalize hag : ([.ref a0, .int x, .ref bo] : List Value).toArray = args at hts hQ ⊢
  have hl : lv_has ls 3 [(0, .ref a0), (1, .int x), (2, .ref bo)] := hl
  obtain ⟨H, hH⟩ : ∃ H : Heap, H = s.heap := ⟨_, rfl⟩
  rw [← hH] at hP
  rw [← hH]
  have hS : va_S A s.heap H [] := by rw [hH]; exact hS
  obtain ⟨locs, hlo⟩ : ∃ L : List Loc, L = [] := ⟨_, rfl⟩
  rw [← hlo] at hS
  rw [← hlo]
  clear hH hlo
  refine lv_iconst (v := 1) hx hb dX3_doSees_0 (by decide) ?_
  refine lv_aload_n hx hb dX3_doSees_1 rfl (lv_at hl 2 rfl) ?_
  have hPc := hP.sub (ws' := [(zo1iri bo mdc aEl (nI sz_)), (zaR aEl cEl 10 fEl)]) [0, 1] rfl
  have hDc := hD.sub (ws' := [(zo1iri bo mdc aEl (nI sz_)), (zaR aEl cEl 10 fEl)]) [0, 1] (by decide) rfl
  have hKc := hK.sub (tys' := [(cEl, .object "java/lang/Object")]) [0] rfl
  have hFc := va_free (wc := [(zo1iri bo mdc aEl (nI sz_)), (zaR aEl cEl 10 fEl)]) hD hS hA [0, 1] rfl
  refine va_callv (va_runS (As := [.int 1, .ref bo]) (rest := []) ⟨hx, hb, hml, hown, hts⟩ (c_begin1 l dC dI ad cB bS bo aEl 1 cEl fEl sz_ mdc tl H.size (by omega) (by omega) (zL)) (va_cwS 2 hts gX3_doSees_X3_begin rfl rfl rfl hd_yX3_begin.2 ⟨Nat.le_of_ble_eq_true rfl, Nat.le_of_ble_eq_true rfl⟩) ⟨fun a U g mk q => by obtain ⟨q0, q1, qP, qK, qD, qhI_⟩ := q; exact ⟨q0, mvz g mk a q1, mvP g mk a qP, mvK g mk a qK, qD, qhI_.mv g mk a⟩, fun U hU hW => ⟨rfl, by rw [hU], by rw [hU]; exact hPc, va_K.moved hW.alike hKc, hDc.weaken (fun _ _ _ _ => trivial), hI_.call hS hU hW (fun q h => hFc q h)⟩⟩ rfl rfl hl.1 rfl (lv_room (Nat.le_of_ble_eq_true rfl)) dX3_doSees_2 ⟨Nat.le_of_ble_eq_true rfl, Nat.le_of_ble_eq_true rfl⟩) hS (fun q _ h => hFc q h) hFc (fun u tC H1 locs htC hvm hw_2 hB hz1 hk1 hS => ?_)
  obtain ⟨mdc9_3, sz_9_4, fEl9_5⟩ := u
  try dsimp only at hw_2 hB
  obtain ⟨hP1, hK1, hD1⟩ := hB
  rw [htC] at hP1
  have hK1 := va_K.moved hvm.symm hK1
  obtain ⟨hP, hD⟩ := va_join (wr := []) (w1 := [(zo1iri bo mdc9_3 aEl (nI sz_9_4)), (zaR aEl cEl 10 fEl9_5)]) hP hD [0, 1] [] rfl rfl (by decide) (by decide) hk1 hFc hP1 hD1
  have hK := (hK.sub (tys' := []) [] rfl).app hK1
  generalize H1 = H at hP hS ⊢
  have hP : va_P (dC, dI) vwCl [(zo1iri bo mdc9_3 aEl (nI sz_9_4)), (zaR aEl cEl 10 fEl9_5)] H := hP
  have hD : va_D A [(zo1iri bo mdc9_3 aEl (nI sz_9_4)), (zaR aEl cEl 10 fEl9_5)] := hD
  have hK : va_K (dC, dI) vwCl [(cEl, .object "java/lang/Object")] s := hK
  obtain ⟨e_6, hL_7⟩ := hw_2
  obtain rfl := (e_6).symm
  refine lv_iload_n hx hb dX3_doSees_5 rfl (lv_at hl 1 rfl) ?_
  refine lv_aload_n hx hb dX3_doSees_6 rfl (lv_at hl 0 rfl) ?_
  refine va_get (D := (dC, dI)) (ci := 8) (v := .int (nI i0)) (C := RX6) (T := TX6) (N := 4) hx hb hts kc_X3_doSees_X6_1_1 hown hZ.2.1 (hZ.P hS) 0 rfl rfl 1 (by decide) (hts (.fieldLink RX3 15 "MistHeaps$Heap" "number" "I") kc_X3_doSees_X6_1_0) (fun _ h9 => h9) rfl dX3_doSees_7 ?_
  refine lv_iadd hx hb dX3_doSees_10 ?_
  rw [hQ]
  have hP9 := hP.sub (ws' := [(zo1iri bo mdc9_3 aEl (nI (sz_ + 1))), (zaR aEl cEl 10 fEl9_5)]) [0, 1] rfl
  have hD9 := hD.sub (ws' := [(zo1iri bo mdc9_3 aEl (nI (sz_ + 1))), (zaR aEl cEl 10 fEl9_5)]) [0, 1] (by decide) rfl
  have hK9 := hK.sub (tys' := [(cEl, .object "java/lang/Object")]) [0] rfl
  exact W.iret (v := x + (nI i0)) hx hb hr (fun tQ htQ hWQ => ⟨⟨(x + (nI i0)), (mdc9_3, (sz_ + 1), fEl9_5), rfl, ⟨rfl, by omega, by have h9 := hL_7; exact h9⟩, by rw [htQ]; exact hP9, va_K.moved hWQ.alike hK9, hD9⟩, hS.F htQ⟩) hS.2.2 dX3_doSees_11

theorem kc_X3_doSees_X6_0_0 : (.fieldLink RX3 15 "MistHeaps$Heap" "number" "I" : Cond) ∈ wsX3_doSees := kc_of 231 rfl rfl rfl
theorem kc_X3_doSees_X6_0_1 : ∀ w ∈ wsX60, w ∈ wsX3_doSees := fun w h => List.mem_cons_of_mem _ (gin_wsX60 w h)
set_option maxHeartbeats 4000000 in
set_option maxRecDepth 100000 in
theorem c_X3_doSees_X6_0 (l : Launch) (dC : Nat → ClassId) (dI : Nat → Nat → Nat) (ad : Nat → Nat) (cB bS : Nat)    (bo : Nat) (i0 : Nat) (sk : Int32) (sv : Int32) (scl : Int32) (x : Int32) (a0 : Nat) (mdc : Int32) (sz : Nat) : Met l yX3_doSees wsX3_doSees ({ frames := 6, cells := 1, slots := 10, locals := 122 } : Room) (va_Pc [.ref a0, .int x, .ref bo] (fun U => U.heap.size = sz ∧ va_P (dC, dI) vwCl [(zo1iri bo mdc bS 0)] U.heap ∧ va_K (dC, dI) vwCl [] U ∧ va_D (fun _ => True) [(zo1iri bo mdc bS 0)] ∧ Gi ad cB bS (va_A [(zo1iri bo mdc bS 0)] sz) U ∧ Gb (va_A [(zo1iri bo mdc bS 0)] sz) U ∧ Gw (va_A [(zo1iri bo mdc bS 0)] sz) U ∧ Fz dC dI [(zo8iiii a0 sk (nI i0) sv scl)] [] (va_A [(zo1iri bo mdc bS 0)] sz) U)) (va_Qi (fun (r : Int32) (u : (Int32) × (Nat) × (ClassId) × (Nat) × (Nat → Option Nat)) => match u with | (mdc9, aEl9, cEl9, sz_9, fEl9) => r = x + nI i0 ∧ sz_9 = 1 ∧ okL ad fEl9 sz_9 [1]) (fun (u : (Int32) × (Nat) × (ClassId) × (Nat) × (Nat → Option Nat)) (t : State) => match u with | (mdc9, aEl9, cEl9, sz_9, fEl9) => va_P (dC, dI) vwCl [(zo1iri bo mdc9 aEl9 (nI sz_9)), (zaR aEl9 cEl9 10 fEl9)] t.heap ∧ va_K (dC, dI) vwCl [(cEl9, .object "java/lang/Object")] t ∧ va_D (va_A [(zo1iri bo mdc bS 0)] sz) [(zo1iri bo mdc9 aEl9 (nI sz_9)), (zaR aEl9 cEl9 10 fEl9)]) (va_A [(zo1iri bo mdc bS 0)] sz)) 1 10 (va_A [(zo1iri bo mdc bS 0)] sz) := by
  refine met_ofQ (cc := cX3_doSees) (maxL := 3) (ret := (some .int)) (by decide) rfl ?_
  intro p e s m args below meth c s₁ Q B hml hv hQ
  obtain ⟨rfl, hsz, hP, hK, hD0, hI_, hB_, hW_, hZ⟩ := hv
  have hx := B.exec
  have hb := B.bytes
  have hr := B.returns
  have hts := atoms_spec (ws := wsX3_doSees) B.pre
  have hown : s.vm.findClass RX3 = some m.cls := findClass_of_methodNamed B.named
  have hlocks := B.notSynchronized
  subst hsz
  have hD := hD0.self (sz := s.heap.size)
  generalize hAe : va_A [(zo1iri bo mdc bS 0)] s.heap.size = A at hD hQ hI_ hB_ hW_ hZ ⊢
  have hA : ∀ q : Nat, s.heap.size ≤ q → A q := fun q h => by rw [← hAe]; exact Or.inr h
  have hS : va_S A s.heap s.heap [] := va_S.rf
  have hl := lv_entry [.ref a0, .int x, .ref bo] (n := 3) (Nat.le_of_ble_eq_true rfl)
  rw [lg_entry_eq]
  generalize (lg_sl [.ref a0, .int x, .ref bo] ++ List.replicate (3 - (lg_sl [.ref a0, .int x, .ref bo]).length) Slot.unset).toArray = ls at hl ⊢
  generalize hag : ([.ref a0, .int x, .ref bo] : List Value).toArray = args at hts hQ ⊢
  have hl : lv_has ls 3 [(0, .ref a0), (1, .int x), (2, .ref bo)] := hl
  obtain ⟨H, hH⟩ : ∃ H : Heap, H = s.heap := ⟨_, rfl⟩
  rw [← hH] at hP
  rw [← hH]
  have hS : va_S A s.heap H [] := by rw [hH]; exact hS
  obtain ⟨locs, hlo⟩ : ∃ L : List Loc, L = [] := ⟨_, rfl⟩
  rw [← hlo] at hS
  rw [← hlo]
  clear hH hlo
  refine lv_iconst (v := 1) hx hb dX3_doSees_0 (by decide) ?_
  refine lv_aload_n hx hb dX3_doSees_1 rfl (lv_at hl 2 rfl) ?_
  have hPc := hP.sub (ws' := [(zo1iri bo mdc bS 0)]) [0] rfl
  have hDc := hD.sub (ws' := [(zo1iri bo mdc bS 0)]) [0] (by decide) rfl
  have hKc := hK.sub (tys' := []) [] rfl
  have hFc := va_free (wc := [(zo1iri bo mdc bS 0)]) hD hS hA [0] rfl
  refine va_callv (va_runS (As := [.int 1, .ref bo]) (rest := []) ⟨hx, hb, hml, hown, hts⟩ (c_begin0 l dC dI ad cB bS bo mdc 1 H.size (by omega)) (va_cwS 2 hts gX3_doSees_X3_begin rfl rfl rfl hd_yX3_begin.2 ⟨Nat.le_of_ble_eq_true rfl, Nat.le_of_ble_eq_true rfl⟩) ⟨fun a U g mk q => by obtain ⟨q0, q1, qP, qK, qD, qhI_⟩ := q; exact ⟨q0, mvz g mk a q1, mvP g mk a qP, mvK g mk a qK, qD, qhI_.mv g mk a⟩, fun U hU hW => ⟨rfl, by rw [hU], by rw [hU]; exact hPc, va_K.moved hW.alike hKc, hDc.weaken (fun _ _ _ _ => trivial), hI_.call hS hU hW (fun q h => hFc q h)⟩⟩ rfl rfl hl.1 rfl (lv_room (Nat.le_of_ble_eq_true rfl)) dX3_doSees_2 ⟨Nat.le_of_ble_eq_true rfl, Nat.le_of_ble_eq_true rfl⟩) hS (fun q _ h => hFc q h) hFc (fun u tC H1 locs htC hvm hw_2 hB hz1 hk1 hS => ?_)
  obtain ⟨mdc9_3, aEl9_4, cEl9_5, sz_9_6, fEl9_7⟩ := u
  try dsimp only at hw_2 hB
  obtain ⟨hP1, hK1, hD1⟩ := hB
  rw [htC] at hP1
  have hK1 := va_K.moved hvm.symm hK1
  obtain ⟨hP, hD⟩ := va_join (wr := []) (w1 := [(zo1iri bo mdc9_3 aEl9_4 (nI sz_9_6)), (zaR aEl9_4 cEl9_5 10 fEl9_7)]) hP hD [0] [] rfl rfl (by decide) (by decide) hk1 hFc hP1 hD1
  have hK := (hK.sub (tys' := []) [] rfl).app hK1
  generalize H1 = H at hP hS ⊢
  have hP : va_P (dC, dI) vwCl [(zo1iri bo mdc9_3 aEl9_4 (nI sz_9_6)), (zaR aEl9_4 cEl9_5 10 fEl9_7)] H := hP
  have hD : va_D A [(zo1iri bo mdc9_3 aEl9_4 (nI sz_9_6)), (zaR aEl9_4 cEl9_5 10 fEl9_7)] := hD
  have hK : va_K (dC, dI) vwCl [(cEl9_5, .object "java/lang/Object")] s := hK
  refine W.widen (k := 1) (n := 10) (by omega) (by omega) ?_
  obtain ⟨e_8, hL_9⟩ := hw_2
  obtain rfl := (e_8).symm
  refine lv_iload_n hx hb dX3_doSees_5 rfl (lv_at hl 1 rfl) ?_
  refine lv_aload_n hx hb dX3_doSees_6 rfl (lv_at hl 0 rfl) ?_
  refine va_get (D := (dC, dI)) (ci := 8) (v := .int (nI i0)) (C := RX6) (T := TX6) (N := 4) hx hb hts kc_X3_doSees_X6_0_1 hown hZ.2.1 (hZ.P hS) 0 rfl rfl 1 (by decide) (hts (.fieldLink RX3 15 "MistHeaps$Heap" "number" "I") kc_X3_doSees_X6_0_0) (fun _ h9 => h9) rfl dX3_doSees_7 ?_
  refine lv_iadd hx hb dX3_doSees_10 ?_
  rw [hQ]
  have hP9 := hP.sub (ws' := [(zo1iri bo mdc9_3 aEl9_4 (nI 1)), (zaR aEl9_4 cEl9_5 10 fEl9_7)]) [0, 1] rfl
  have hD9 := hD.sub (ws' := [(zo1iri bo mdc9_3 aEl9_4 (nI 1)), (zaR aEl9_4 cEl9_5 10 fEl9_7)]) [0, 1] (by decide) rfl
  have hK9 := hK.sub (tys' := [(cEl9_5, .object "java/lang/Object")]) [0] rfl
  refine W.widen (k := 1) (n := 10) (by omega) (by omega) ?_
  exact W.iret (v := x + (nI i0)) hx hb hr (fun tQ htQ hWQ => ⟨⟨(x + (nI i0)), (mdc9_3, aEl9_4, cEl9_5, 1, fEl9_7), rfl, ⟨rfl, by omega, hL_9⟩, by rw [htQ]; exact hP9, va_K.moved hWQ.alike hK9, hD9⟩, hS.F htQ⟩) hS.2.2 dX3_doSees_11

theorem kc_X3_doGoes_X6_1_0 : (.fieldLink RX3 18 "MistHeaps$Heap" "v" "I" : Cond) ∈ wsX3_doGoes := kc_of 236 rfl rfl rfl
theorem kc_X3_doGoes_X6_1_1 : ∀ w ∈ wsX60, w ∈ wsX3_doGoes := fun w h => List.mem_cons_of_mem _ (gin_wsX60 w h)
set_option maxHeartbeats 4000000 in
set_option maxRecDepth 100000 in
theorem c_X3_doGoes_X6_1 (l : Launch) (dC : Nat → ClassId) (dI : Nat → Nat → Nat) (ad : Nat → Nat) (cB bS : Nat)    (bo : Nat) (aEl : Nat) (i0 : Nat) (sk : Int32) (sv : Int32) (scl : Int32) (x : Int32) (cEl : ClassId) (fEl : Nat → Option Nat) (a0 : Nat) (sz_ : Nat) (mdc : Int32) (tl : List Nat) (sz : Nat) (hsz : sz_ + 2 ≤ 10) (zL : okL ad fEl sz_ tl) : Met l yX3_doGoes wsX3_doGoes ({ frames := 4, cells := 0, slots := 0, locals := 87 } : Room) (va_Pc [.ref a0, .int x, .ref bo] (fun U => U.heap.size = sz ∧ va_P (dC, dI) vwCl [(zo1iri bo mdc aEl (nI sz_)), (zaR aEl cEl 10 fEl)] U.heap ∧ va_K (dC, dI) vwCl [(cEl, .object "java/lang/Object")] U ∧ va_D (fun _ => True) [(zo1iri bo mdc aEl (nI sz_)), (zaR aEl cEl 10 fEl)] ∧ Gi ad cB bS (va_A [(zo1iri bo mdc aEl (nI sz_)), (zaR aEl cEl 10 fEl)] sz) U ∧ Gb (va_A [(zo1iri bo mdc aEl (nI sz_)), (zaR aEl cEl 10 fEl)] sz) U ∧ Gw (va_A [(zo1iri bo mdc aEl (nI sz_)), (zaR aEl cEl 10 fEl)] sz) U ∧ Fz dC dI [(zo8iiii a0 sk (nI i0) sv scl)] [] (va_A [(zo1iri bo mdc aEl (nI sz_)), (zaR aEl cEl 10 fEl)] sz) U)) (va_Qi (fun (r : Int32) (u : (Int32) × (Nat) × (Nat → Option Nat)) => match u with | (mdc9, sz_9, fEl9) => r = (x + nI i0) - sv ∧ sz_9 = sz_ + 2 ∧ okL ad fEl9 sz_9 (tl ++ [2, 1])) (fun (u : (Int32) × (Nat) × (Nat → Option Nat)) (t : State) => match u with | (mdc9, sz_9, fEl9) => va_P (dC, dI) vwCl [(zo1iri bo mdc9 aEl (nI sz_9)), (zaR aEl cEl 10 fEl9)] t.heap ∧ va_K (dC, dI) vwCl [(cEl, .object "java/lang/Object")] t ∧ va_D (va_A [(zo1iri bo mdc aEl (nI sz_)), (zaR aEl cEl 10 fEl)] sz) [(zo1iri bo mdc9 aEl (nI sz_9)), (zaR aEl cEl 10 fEl9)]) (va_A [(zo1iri bo mdc aEl (nI sz_)), (zaR aEl cEl 10 fEl)] sz)) 0 0 (va_A [(zo1iri bo mdc aEl (nI sz_)), (zaR aEl cEl 10 fEl)] sz) := by
  refine met_ofQ (cc := cX3_doGoes) (maxL := 3) (ret := (some .int)) (by decide) rfl ?_
  intro p e s m args below meth c s₁ Q B hml hv hQ
  obtain ⟨rfl, hsz, hP, hK, hD0, hI_, hB_, hW_, hZ⟩ := hv
  have hx := B.exec
  have hb := B.bytes
  have hr := B.returns
  have hts := atoms_spec (ws := wsX3_doGoes) B.pre
  have hown : s.vm.findClass RX3 = some m.cls := findClass_of_methodNamed B.named
  have hlocks := B.notSynchronized
  subst hsz
  have hD := hD0.self (sz := s.heap.size)
  generalize hAe : va_A [(zo1iri bo mdc aEl (nI sz_)), (zaR aEl cEl 10 fEl)] s.heap.size = A at hD hQ hI_ hB_ hW_ hZ ⊢
  have hA : ∀ q : Nat, s.heap.size ≤ q → A q := fun q h => by rw [← hAe]; exact Or.inr h
  have hS : va_S A s.heap s.heap [] := va_S.rf
  have hl := lv_entry [.ref a0, .int x, .ref bo] (n := 3) (Nat.le_of_ble_eq_true rfl)
  rw [lg_entry_eq]
  generalize (lg_sl [.ref a0, .int x, .ref bo] ++ List.replicate (3 - (lg_sl [.ref a0, .int x, .ref bo]).length) Slot.unset).toArray = ls at hl ⊢
  generalize hag : ([.ref a0, .int x, .ref bo] : List Value).toArray = args at hts hQ ⊢
  have hl : lv_has ls 3 [(0, .ref a0), (1, .int x), (2, .ref bo)] := hl
  obtain ⟨H, hH⟩ : ∃ H : Heap, H = s.heap := ⟨_, rfl⟩
  rw [← hH] at hP
  rw [← hH]
  have hS : va_S A s.heap H [] := by rw [hH]; exact hS
  obtain ⟨locs, hlo⟩ : ∃ L : List Loc, L = [] := ⟨_, rfl⟩
  rw [← hlo] at hS
  rw [← hlo]
  clear hH hlo
  refine lv_iconst (v := 2) hx hb dX3_doGoes_0 (by decide) ?_
  refine lv_aload_n hx hb dX3_doGoes_1 rfl (lv_at hl 2 rfl) ?_
  have hPc := hP.sub (ws' := [(zo1iri bo mdc aEl (nI sz_)), (zaR aEl cEl 10 fEl)]) [0, 1] rfl
  have hDc := hD.sub (ws' := [(zo1iri bo mdc aEl (nI sz_)), (zaR aEl cEl 10 fEl)]) [0, 1] (by decide) rfl
  have hKc := hK.sub (tys' := [(cEl, .object "java/lang/Object")]) [0] rfl
  have hFc := va_free (wc := [(zo1iri bo mdc aEl (nI sz_)), (zaR aEl cEl 10 fEl)]) hD hS hA [0, 1] rfl
  refine va_callv (va_runS (As := [.int 2, .ref bo]) (rest := []) ⟨hx, hb, hml, hown, hts⟩ (c_begin1 l dC dI ad cB bS bo aEl 2 cEl fEl sz_ mdc tl H.size (by omega) (by omega) (zL)) (va_cwS 2 hts gX3_doGoes_X3_begin rfl rfl rfl hd_yX3_begin.2 ⟨Nat.le_of_ble_eq_true rfl, Nat.le_of_ble_eq_true rfl⟩) ⟨fun a U g mk q => by obtain ⟨q0, q1, qP, qK, qD, qhI_⟩ := q; exact ⟨q0, mvz g mk a q1, mvP g mk a qP, mvK g mk a qK, qD, qhI_.mv g mk a⟩, fun U hU hW => ⟨rfl, by rw [hU], by rw [hU]; exact hPc, va_K.moved hW.alike hKc, hDc.weaken (fun _ _ _ _ => trivial), hI_.call hS hU hW (fun q h => hFc q h)⟩⟩ rfl rfl hl.1 rfl (lv_room (Nat.le_of_ble_eq_true rfl)) dX3_doGoes_2 ⟨Nat.le_of_ble_eq_true rfl, Nat.le_of_ble_eq_true rfl⟩) hS (fun q _ h => hFc q h) hFc (fun u tC H1 locs htC hvm hw_2 hB hz1 hk1 hS => ?_)
  obtain ⟨mdc9_3, sz_9_4, fEl9_5⟩ := u
  try dsimp only at hw_2 hB
  obtain ⟨hP1, hK1, hD1⟩ := hB
  rw [htC] at hP1
  have hK1 := va_K.moved hvm.symm hK1
  obtain ⟨hP, hD⟩ := va_join (wr := []) (w1 := [(zo1iri bo mdc9_3 aEl (nI sz_9_4)), (zaR aEl cEl 10 fEl9_5)]) hP hD [0, 1] [] rfl rfl (by decide) (by decide) hk1 hFc hP1 hD1
  have hK := (hK.sub (tys' := []) [] rfl).app hK1
  generalize H1 = H at hP hS ⊢
  have hP : va_P (dC, dI) vwCl [(zo1iri bo mdc9_3 aEl (nI sz_9_4)), (zaR aEl cEl 10 fEl9_5)] H := hP
  have hD : va_D A [(zo1iri bo mdc9_3 aEl (nI sz_9_4)), (zaR aEl cEl 10 fEl9_5)] := hD
  have hK : va_K (dC, dI) vwCl [(cEl, .object "java/lang/Object")] s := hK
  obtain ⟨e_6, hL_7⟩ := hw_2
  obtain rfl := (e_6).symm
  refine lv_aload_n hx hb dX3_doGoes_5 rfl (lv_at hl 0 rfl) ?_
  refine lv_iload_n hx hb dX3_doGoes_6 rfl (lv_at hl 1 rfl) ?_
  refine lv_aload_n hx hb dX3_doGoes_7 rfl (lv_at hl 2 rfl) ?_
  have hPc := hP.sub (ws' := [(zo1iri bo mdc9_3 aEl (nI (sz_ + 1))), (zaR aEl cEl 10 fEl9_5)]) [0, 1] rfl
  have hDc := hD.sub (ws' := [(zo1iri bo mdc9_3 aEl (nI (sz_ + 1))), (zaR aEl cEl 10 fEl9_5)]) [0, 1] (by decide) rfl
  have hKc := hK.sub (tys' := [(cEl, .object "java/lang/Object")]) [0] rfl
  have hFc := va_free (wc := [(zo1iri bo mdc9_3 aEl (nI (sz_ + 1))), (zaR aEl cEl 10 fEl9_5)]) hD hS hA [0, 1] rfl
  refine va_calli (va_runU (As := [.int x, .ref bo]) (rest := []) ⟨hx, hb, hml, hown, hts⟩ (c_X3_doSees_X6_1 l dC dI ad cB bS    bo aEl i0 sk sv scl x cEl fEl9_5 a0 (sz_ + 1) mdc9_3 (tl ++ [2]) H.size (by omega) (hL_7)) (va_cwU 2 hts gX3_doGoes_X3_doSees_u38X6 rfl rfl rfl rfl (by decide +kernel) ⟨Nat.le_of_ble_eq_true rfl, Nat.le_of_ble_eq_true rfl⟩) ⟨fun a U g mk q => by obtain ⟨q0, q1, qP, qK, qD, qhI_, qhB_, qhW_, qhZ⟩ := q; exact ⟨q0, mvz g mk a q1, mvP g mk a qP, mvK g mk a qK, qD, qhI_.mv g mk a, qhB_.mv g mk a, qhW_.mv g mk a, qhZ.mv g mk a⟩, va_recv hZ.2.1 (hZ.P hS) (ci := 8) (q := (RX6, TX6, 4)) (q0 := 0) rfl rfl, fun U hU hW => ⟨rfl, by rw [hU], by rw [hU]; exact hPc, va_K.moved hW.alike hKc, hDc.weaken (fun _ _ _ _ => trivial), hI_.call hS hU hW (fun q h => hFc q h), hB_.call hS hU hW (fun q h => hFc q h), hW_.call hS hU hW (fun q h => hFc q h), (hZ.sub [0] [] rfl rfl).call hS hU hW (fun q h => hFc q h)⟩⟩ rfl rfl hl.1 rfl (lv_room (Nat.le_of_ble_eq_true rfl)) dX3_doGoes_8 ⟨Nat.le_of_ble_eq_true rfl, Nat.le_of_ble_eq_true rfl⟩) hS (fun q _ h => hFc q h) hFc (fun r_8 u tC H1 locs htC hvm hw_9 hB hz1 hk1 hS => ?_)
  obtain ⟨mdc9_10, sz_9_11, fEl9_12⟩ := u
  try dsimp only at hw_9 hB
  obtain ⟨hP1, hK1, hD1⟩ := hB
  rw [htC] at hP1
  have hK1 := va_K.moved hvm.symm hK1
  obtain ⟨hP, hD⟩ := va_join (wr := []) (w1 := [(zo1iri bo mdc9_10 aEl (nI sz_9_11)), (zaR aEl cEl 10 fEl9_12)]) hP hD [0, 1] [] rfl rfl (by decide) (by decide) hk1 hFc hP1 hD1
  have hK := (hK.sub (tys' := []) [] rfl).app hK1
  generalize H1 = H at hP hS ⊢
  have hP : va_P (dC, dI) vwCl [(zo1iri bo mdc9_10 aEl (nI sz_9_11)), (zaR aEl cEl 10 fEl9_12)] H := hP
  have hD : va_D A [(zo1iri bo mdc9_10 aEl (nI sz_9_11)), (zaR aEl cEl 10 fEl9_12)] := hD
  have hK : va_K (dC, dI) vwCl [(cEl, .object "java/lang/Object")] s := hK
  obtain ⟨er_13, e_14, hL_15⟩ := hw_9
  obtain rfl := (e_14).symm
  subst er_13
  refine lv_aload_n hx hb dX3_doGoes_11 rfl (lv_at hl 0 rfl) ?_
  refine va_get (D := (dC, dI)) (ci := 8) (v := .int sv) (C := RX6) (T := TX6) (N := 4) hx hb hts kc_X3_doGoes_X6_1_1 hown hZ.2.1 (hZ.P hS) 0 rfl rfl 2 (by decide) (hts (.fieldLink RX3 18 "MistHeaps$Heap" "v" "I") kc_X3_doGoes_X6_1_0) (fun _ h9 => h9) rfl dX3_doGoes_12 ?_
  refine lv_isub hx hb dX3_doGoes_15 ?_
  rw [hQ]
  have hP9 := hP.sub (ws' := [(zo1iri bo mdc9_10 aEl (nI ((sz_ + 1) + 1))), (zaR aEl cEl 10 fEl9_12)]) [0, 1] rfl
  have hD9 := hD.sub (ws' := [(zo1iri bo mdc9_10 aEl (nI ((sz_ + 1) + 1))), (zaR aEl cEl 10 fEl9_12)]) [0, 1] (by decide) rfl
  have hK9 := hK.sub (tys' := [(cEl, .object "java/lang/Object")]) [0] rfl
  exact W.iret (v := (x + nI i0) - sv) hx hb hr (fun tQ htQ hWQ => ⟨⟨((x + nI i0) - sv), (mdc9_10, ((sz_ + 1) + 1), fEl9_12), rfl, ⟨rfl, by omega, by have h9 := okL_as (hL_15); exact h9⟩, by rw [htQ]; exact hP9, va_K.moved hWQ.alike hK9, hD9⟩, hS.F htQ⟩) hS.2.2 dX3_doGoes_16

theorem kc_X3_doGoes_X6_0_0 : (.fieldLink RX3 18 "MistHeaps$Heap" "v" "I" : Cond) ∈ wsX3_doGoes := kc_of 236 rfl rfl rfl
theorem kc_X3_doGoes_X6_0_1 : ∀ w ∈ wsX60, w ∈ wsX3_doGoes := fun w h => List.mem_cons_of_mem _ (gin_wsX60 w h)
set_option maxHeartbeats 4000000 in
set_option maxRecDepth 100000 in
theorem c_X3_doGoes_X6_0 (l : Launch) (dC : Nat → ClassId) (dI : Nat → Nat → Nat) (ad : Nat → Nat) (cB bS : Nat)    (bo : Nat) (i0 : Nat) (sk : Int32) (sv : Int32) (scl : Int32) (x : Int32) (a0 : Nat) (mdc : Int32) (sz : Nat) : Met l yX3_doGoes wsX3_doGoes ({ frames := 6, cells := 1, slots := 10, locals := 122 } : Room) (va_Pc [.ref a0, .int x, .ref bo] (fun U => U.heap.size = sz ∧ va_P (dC, dI) vwCl [(zo1iri bo mdc bS 0)] U.heap ∧ va_K (dC, dI) vwCl [] U ∧ va_D (fun _ => True) [(zo1iri bo mdc bS 0)] ∧ Gi ad cB bS (va_A [(zo1iri bo mdc bS 0)] sz) U ∧ Gb (va_A [(zo1iri bo mdc bS 0)] sz) U ∧ Gw (va_A [(zo1iri bo mdc bS 0)] sz) U ∧ Fz dC dI [(zo8iiii a0 sk (nI i0) sv scl)] [] (va_A [(zo1iri bo mdc bS 0)] sz) U)) (va_Qi (fun (r : Int32) (u : (Int32) × (Nat) × (ClassId) × (Nat) × (Nat → Option Nat)) => match u with | (mdc9, aEl9, cEl9, sz_9, fEl9) => r = (x + nI i0) - sv ∧ sz_9 = 2 ∧ okL ad fEl9 sz_9 [2, 1]) (fun (u : (Int32) × (Nat) × (ClassId) × (Nat) × (Nat → Option Nat)) (t : State) => match u with | (mdc9, aEl9, cEl9, sz_9, fEl9) => va_P (dC, dI) vwCl [(zo1iri bo mdc9 aEl9 (nI sz_9)), (zaR aEl9 cEl9 10 fEl9)] t.heap ∧ va_K (dC, dI) vwCl [(cEl9, .object "java/lang/Object")] t ∧ va_D (va_A [(zo1iri bo mdc bS 0)] sz) [(zo1iri bo mdc9 aEl9 (nI sz_9)), (zaR aEl9 cEl9 10 fEl9)]) (va_A [(zo1iri bo mdc bS 0)] sz)) 1 10 (va_A [(zo1iri bo mdc bS 0)] sz) := by
  refine met_ofQ (cc := cX3_doGoes) (maxL := 3) (ret := (some .int)) (by decide) rfl ?_
  intro p e s m args below meth c s₁ Q B hml hv hQ
  obtain ⟨rfl, hsz, hP, hK, hD0, hI_, hB_, hW_, hZ⟩ := hv
  have hx := B.exec
  have hb := B.bytes
  have hr := B.returns
  have hts := atoms_spec (ws := wsX3_doGoes) B.pre
  have hown : s.vm.findClass RX3 = some m.cls := findClass_of_methodNamed B.named
  have hlocks := B.notSynchronized
  subst hsz
  have hD := hD0.self (sz := s.heap.size)
  generalize hAe : va_A [(zo1iri bo mdc bS 0)] s.heap.size = A at hD hQ hI_ hB_ hW_ hZ ⊢
  have hA : ∀ q : Nat, s.heap.size ≤ q → A q := fun q h => by rw [← hAe]; exact Or.inr h
  have hS : va_S A s.heap s.heap [] := va_S.rf
  have hl := lv_entry [.ref a0, .int x, .ref bo] (n := 3) (Nat.le_of_ble_eq_true rfl)
  rw [lg_entry_eq]
  generalize (lg_sl [.ref a0, .int x, .ref bo] ++ List.replicate (3 - (lg_sl [.ref a0, .int x, .ref bo]).length) Slot.unset).toArray = ls at hl ⊢
  generalize hag : ([.ref a0, .int x, .ref bo] : List Value).toArray = args at hts hQ ⊢
  have hl : lv_has ls 3 [(0, .ref a0), (1, .int x), (2, .ref bo)] := hl
  obtain ⟨H, hH⟩ : ∃ H : Heap, H = s.heap := ⟨_, rfl⟩
  rw [← hH] at hP
  rw [← hH]
  have hS : va_S A s.heap H [] := by rw [hH]; exact hS
  obtain ⟨locs, hlo⟩ : ∃ L : List Loc, L = [] := ⟨_, rfl⟩
  rw [← hlo] at hS
  rw [← hlo]
  clear hH hlo
  refine lv_iconst (v := 2) hx hb dX3_doGoes_0 (by decide) ?_
  refine lv_aload_n hx hb dX3_doGoes_1 rfl (lv_at hl 2 rfl) ?_
  have hPc := hP.sub (ws' := [(zo1iri bo mdc bS 0)]) [0] rfl
  have hDc := hD.sub (ws' := [(zo1iri bo mdc bS 0)]) [0] (by decide) rfl
  have hKc := hK.sub (tys' := []) [] rfl
  have hFc := va_free (wc := [(zo1iri bo mdc bS 0)]) hD hS hA [0] rfl
  refine va_callv (va_runS (As := [.int 2, .ref bo]) (rest := []) ⟨hx, hb, hml, hown, hts⟩ (c_begin0 l dC dI ad cB bS bo mdc 2 H.size (by omega)) (va_cwS 2 hts gX3_doGoes_X3_begin rfl rfl rfl hd_yX3_begin.2 ⟨Nat.le_of_ble_eq_true rfl, Nat.le_of_ble_eq_true rfl⟩) ⟨fun a U g mk q => by obtain ⟨q0, q1, qP, qK, qD, qhI_⟩ := q; exact ⟨q0, mvz g mk a q1, mvP g mk a qP, mvK g mk a qK, qD, qhI_.mv g mk a⟩, fun U hU hW => ⟨rfl, by rw [hU], by rw [hU]; exact hPc, va_K.moved hW.alike hKc, hDc.weaken (fun _ _ _ _ => trivial), hI_.call hS hU hW (fun q h => hFc q h)⟩⟩ rfl rfl hl.1 rfl (lv_room (Nat.le_of_ble_eq_true rfl)) dX3_doGoes_2 ⟨Nat.le_of_ble_eq_true rfl, Nat.le_of_ble_eq_true rfl⟩) hS (fun q _ h => hFc q h) hFc (fun u tC H1 locs htC hvm hw_2 hB hz1 hk1 hS => ?_)
  obtain ⟨mdc9_3, aEl9_4, cEl9_5, sz_9_6, fEl9_7⟩ := u
  try dsimp only at hw_2 hB
  obtain ⟨hP1, hK1, hD1⟩ := hB
  rw [htC] at hP1
  have hK1 := va_K.moved hvm.symm hK1
  obtain ⟨hP, hD⟩ := va_join (wr := []) (w1 := [(zo1iri bo mdc9_3 aEl9_4 (nI sz_9_6)), (zaR aEl9_4 cEl9_5 10 fEl9_7)]) hP hD [0] [] rfl rfl (by decide) (by decide) hk1 hFc hP1 hD1
  have hK := (hK.sub (tys' := []) [] rfl).app hK1
  generalize H1 = H at hP hS ⊢
  have hP : va_P (dC, dI) vwCl [(zo1iri bo mdc9_3 aEl9_4 (nI sz_9_6)), (zaR aEl9_4 cEl9_5 10 fEl9_7)] H := hP
  have hD : va_D A [(zo1iri bo mdc9_3 aEl9_4 (nI sz_9_6)), (zaR aEl9_4 cEl9_5 10 fEl9_7)] := hD
  have hK : va_K (dC, dI) vwCl [(cEl9_5, .object "java/lang/Object")] s := hK
  refine W.widen (k := 1) (n := 10) (by omega) (by omega) ?_
  obtain ⟨e_8, hL_9⟩ := hw_2
  obtain rfl := (e_8).symm
  refine lv_aload_n hx hb dX3_doGoes_5 rfl (lv_at hl 0 rfl) ?_
  refine lv_iload_n hx hb dX3_doGoes_6 rfl (lv_at hl 1 rfl) ?_
  refine lv_aload_n hx hb dX3_doGoes_7 rfl (lv_at hl 2 rfl) ?_
  have hPc := hP.sub (ws' := [(zo1iri bo mdc9_3 aEl9_4 (nI 1)), (zaR aEl9_4 cEl9_5 10 fEl9_7)]) [0, 1] rfl
  have hDc := hD.sub (ws' := [(zo1iri bo mdc9_3 aEl9_4 (nI 1)), (zaR aEl9_4 cEl9_5 10 fEl9_7)]) [0, 1] (by decide) rfl
  have hKc := hK.sub (tys' := [(cEl9_5, .object "java/lang/Object")]) [0] rfl
  have hFc := va_free (wc := [(zo1iri bo mdc9_3 aEl9_4 (nI 1)), (zaR aEl9_4 cEl9_5 10 fEl9_7)]) hD hS hA [0, 1] rfl
  refine va_calli (va_runU (As := [.int x, .ref bo]) (rest := []) ⟨hx, hb, hml, hown, hts⟩ (c_X3_doSees_X6_1 l dC dI ad cB bS    bo aEl9_4 i0 sk sv scl x cEl9_5 fEl9_7 a0 1 mdc9_3 ([2]) H.size (by omega) (hL_9)) (va_cwU 2 hts gX3_doGoes_X3_doSees_u38X6 rfl rfl rfl rfl (by decide +kernel) ⟨Nat.le_of_ble_eq_true rfl, Nat.le_of_ble_eq_true rfl⟩) ⟨fun a U g mk q => by obtain ⟨q0, q1, qP, qK, qD, qhI_, qhB_, qhW_, qhZ⟩ := q; exact ⟨q0, mvz g mk a q1, mvP g mk a qP, mvK g mk a qK, qD, qhI_.mv g mk a, qhB_.mv g mk a, qhW_.mv g mk a, qhZ.mv g mk a⟩, va_recv hZ.2.1 (hZ.P hS) (ci := 8) (q := (RX6, TX6, 4)) (q0 := 0) rfl rfl, fun U hU hW => ⟨rfl, by rw [hU], by rw [hU]; exact hPc, va_K.moved hW.alike hKc, hDc.weaken (fun _ _ _ _ => trivial), hI_.call hS hU hW (fun q h => hFc q h), hB_.call hS hU hW (fun q h => hFc q h), hW_.call hS hU hW (fun q h => hFc q h), (hZ.sub [0] [] rfl rfl).call hS hU hW (fun q h => hFc q h)⟩⟩ rfl rfl hl.1 rfl (lv_room (Nat.le_of_ble_eq_true rfl)) dX3_doGoes_8 ⟨Nat.le_of_ble_eq_true rfl, Nat.le_of_ble_eq_true rfl⟩) hS (fun q _ h => hFc q h) hFc (fun r_10 u tC H1 locs htC hvm hw_11 hB hz1 hk1 hS => ?_)
  obtain ⟨mdc9_12, sz_9_13, fEl9_14⟩ := u
  try dsimp only at hw_11 hB
  obtain ⟨hP1, hK1, hD1⟩ := hB
  rw [htC] at hP1
  have hK1 := va_K.moved hvm.symm hK1
  obtain ⟨hP, hD⟩ := va_join (wr := []) (w1 := [(zo1iri bo mdc9_12 aEl9_4 (nI sz_9_13)), (zaR aEl9_4 cEl9_5 10 fEl9_14)]) hP hD [0, 1] [] rfl rfl (by decide) (by decide) hk1 hFc hP1 hD1
  have hK := (hK.sub (tys' := []) [] rfl).app hK1
  generalize H1 = H at hP hS ⊢
  have hP : va_P (dC, dI) vwCl [(zo1iri bo mdc9_12 aEl9_4 (nI sz_9_13)), (zaR aEl9_4 cEl9_5 10 fEl9_14)] H := hP
  have hD : va_D A [(zo1iri bo mdc9_12 aEl9_4 (nI sz_9_13)), (zaR aEl9_4 cEl9_5 10 fEl9_14)] := hD
  have hK : va_K (dC, dI) vwCl [(cEl9_5, .object "java/lang/Object")] s := hK
  obtain ⟨er_15, e_16, hL_17⟩ := hw_11
  obtain rfl := (e_16).symm
  subst er_15
  refine lv_aload_n hx hb dX3_doGoes_11 rfl (lv_at hl 0 rfl) ?_
  refine va_get (D := (dC, dI)) (ci := 8) (v := .int sv) (C := RX6) (T := TX6) (N := 4) hx hb hts kc_X3_doGoes_X6_0_1 hown hZ.2.1 (hZ.P hS) 0 rfl rfl 2 (by decide) (hts (.fieldLink RX3 18 "MistHeaps$Heap" "v" "I") kc_X3_doGoes_X6_0_0) (fun _ h9 => h9) rfl dX3_doGoes_12 ?_
  refine lv_isub hx hb dX3_doGoes_15 ?_
  rw [hQ]
  have hP9 := hP.sub (ws' := [(zo1iri bo mdc9_12 aEl9_4 (nI (1 + 1))), (zaR aEl9_4 cEl9_5 10 fEl9_14)]) [0, 1] rfl
  have hD9 := hD.sub (ws' := [(zo1iri bo mdc9_12 aEl9_4 (nI (1 + 1))), (zaR aEl9_4 cEl9_5 10 fEl9_14)]) [0, 1] (by decide) rfl
  have hK9 := hK.sub (tys' := [(cEl9_5, .object "java/lang/Object")]) [0] rfl
  refine W.widen (k := 1) (n := 10) (by omega) (by omega) ?_
  exact W.iret (v := (x + nI i0) - sv) hx hb hr (fun tQ htQ hWQ => ⟨⟨((x + nI i0) - sv), (mdc9_12, aEl9_4, cEl9_5, (1 + 1), fEl9_14), rfl, ⟨rfl, by omega, hL_17⟩, by rw [htQ]; exact hP9, va_K.moved hWQ.alike hK9, hD9⟩, hS.F htQ⟩) hS.2.2 dX3_doGoes_16

set_option maxHeartbeats 4000000 in
set_option maxRecDepth 100000 in
theorem c_X6_doGoes_X6_1 (l : Launch) (dC : Nat → ClassId) (dI : Nat → Nat → Nat) (ad : Nat → Nat) (cB bS : Nat)    (bo : Nat) (aEl : Nat) (i0 : Nat) (sk : Int32) (sv : Int32) (scl : Int32) (x : Int32) (cEl : ClassId) (fEl : Nat → Option Nat) (a0 : Nat) (sz_ : Nat) (mdc : Int32) (tl : List Nat) (sz : Nat) (hsz : sz_ + 3 ≤ 10) (zL : okL ad fEl sz_ tl) : Met l yX6_doGoes wsX6_doGoes ({ frames := 5, cells := 0, slots := 0, locals := 109 } : Room) (va_Pc [.ref a0, .int x, .ref bo] (fun U => U.heap.size = sz ∧ va_P (dC, dI) vwCl [(zo1iri bo mdc aEl (nI sz_)), (zaR aEl cEl 10 fEl)] U.heap ∧ va_K (dC, dI) vwCl [(cEl, .object "java/lang/Object")] U ∧ va_D (fun _ => True) [(zo1iri bo mdc aEl (nI sz_)), (zaR aEl cEl 10 fEl)] ∧ Gi ad cB bS (va_A [(zo1iri bo mdc aEl (nI sz_)), (zaR aEl cEl 10 fEl)] sz) U ∧ Gb (va_A [(zo1iri bo mdc aEl (nI sz_)), (zaR aEl cEl 10 fEl)] sz) U ∧ Gw (va_A [(zo1iri bo mdc aEl (nI sz_)), (zaR aEl cEl 10 fEl)] sz) U ∧ Fz dC dI [(zo8iiii a0 sk (nI i0) sv scl)] [] (va_A [(zo1iri bo mdc aEl (nI sz_)), (zaR aEl cEl 10 fEl)] sz) U)) (va_Qi (fun (r : Int32) (u : (Int32) × (Nat) × (Nat → Option Nat)) => match u with | (mdc9, sz_9, fEl9) => r = -((x + nI i0) - sv) ∧ sz_9 = sz_ + 3 ∧ okL ad fEl9 sz_9 (tl ++ [21, 2, 1])) (fun (u : (Int32) × (Nat) × (Nat → Option Nat)) (t : State) => match u with | (mdc9, sz_9, fEl9) => va_P (dC, dI) vwCl [(zo1iri bo mdc9 aEl (nI sz_9)), (zaR aEl cEl 10 fEl9)] t.heap ∧ va_K (dC, dI) vwCl [(cEl, .object "java/lang/Object")] t ∧ va_D (va_A [(zo1iri bo mdc aEl (nI sz_)), (zaR aEl cEl 10 fEl)] sz) [(zo1iri bo mdc9 aEl (nI sz_9)), (zaR aEl cEl 10 fEl9)]) (va_A [(zo1iri bo mdc aEl (nI sz_)), (zaR aEl cEl 10 fEl)] sz)) 0 0 (va_A [(zo1iri bo mdc aEl (nI sz_)), (zaR aEl cEl 10 fEl)] sz) := by
  refine met_ofQ (cc := cX6_doGoes) (maxL := 3) (ret := (some .int)) (by decide) rfl ?_
  intro p e s m args below meth c s₁ Q B hml hv hQ
  obtain ⟨rfl, hsz, hP, hK, hD0, hI_, hB_, hW_, hZ⟩ := hv
  have hx := B.exec
  have hb := B.bytes
  have hr := B.returns
  have hts := atoms_spec (ws := wsX6_doGoes) B.pre
  have hown : s.vm.findClass RX6 = some m.cls := findClass_of_methodNamed B.named
  have hlocks := B.notSynchronized
  subst hsz
  have hD := hD0.self (sz := s.heap.size)
  generalize hAe : va_A [(zo1iri bo mdc aEl (nI sz_)), (zaR aEl cEl 10 fEl)] s.heap.size = A at hD hQ hI_ hB_ hW_ hZ ⊢
  have hA : ∀ q : Nat, s.heap.size ≤ q → A q := fun q h => by rw [← hAe]; exact Or.inr h
  have hS : va_S A s.heap s.heap [] := va_S.rf
  have hl := lv_entry [.ref a0, .int x, .ref bo] (n := 3) (Nat.le_of_ble_eq_true rfl)
  rw [lg_entry_eq]
  generalize (lg_sl [.ref a0, .int x, .ref bo] ++ List.replicate (3 - (lg_sl [.ref a0, .int x, .ref bo]).length) Slot.unset).toArray = ls at hl ⊢
  generalize hag : ([.ref a0, .int x, .ref bo] : List Value).toArray = args at hts hQ ⊢
  have hl : lv_has ls 3 [(0, .ref a0), (1, .int x), (2, .ref bo)] := hl
  obtain ⟨H, hH⟩ : ∃ H : Heap, H = s.heap := ⟨_, rfl⟩
  rw [← hH] at hP
  rw [← hH]
  have hS : va_S A s.heap H [] := by rw [hH]; exact hS
  obtain ⟨locs, hlo⟩ : ∃ L : List Loc, L = [] := ⟨_, rfl⟩
  rw [← hlo] at hS
  rw [← hlo]
  clear hH hlo
  refine lv_bipush (v := 21) hx hb dX6_doGoes_0 (by decide) ?_
  refine lv_aload_n hx hb dX6_doGoes_2 rfl (lv_at hl 2 rfl) ?_
  have hPc := hP.sub (ws' := [(zo1iri bo mdc aEl (nI sz_)), (zaR aEl cEl 10 fEl)]) [0, 1] rfl
  have hDc := hD.sub (ws' := [(zo1iri bo mdc aEl (nI sz_)), (zaR aEl cEl 10 fEl)]) [0, 1] (by decide) rfl
  have hKc := hK.sub (tys' := [(cEl, .object "java/lang/Object")]) [0] rfl
  have hFc := va_free (wc := [(zo1iri bo mdc aEl (nI sz_)), (zaR aEl cEl 10 fEl)]) hD hS hA [0, 1] rfl
  refine va_callv (va_runU2 (As := [.int 21, .ref bo]) (rest := []) ⟨hx, hb, hml, hown, hts⟩ (c_begin1 l dC dI ad cB bS bo aEl 21 cEl fEl sz_ mdc tl H.size (by omega) (by omega) (zL)) (u2_cw (x := xb6) 2 hB_ inb6 rfl rfl rfl rfl rfl (by decide +kernel) ⟨Nat.le_of_ble_eq_true rfl, Nat.le_of_ble_eq_true rfl⟩) ⟨fun a U g mk q => by obtain ⟨q0, q1, qP, qK, qD, qhI_⟩ := q; exact ⟨q0, mvz g mk a q1, mvP g mk a qP, mvK g mk a qK, qD, qhI_.mv g mk a⟩, fun U hU hW => ⟨rfl, by rw [hU], by rw [hU]; exact hPc, va_K.moved hW.alike hKc, hDc.weaken (fun _ _ _ _ => trivial), hI_.call hS hU hW (fun q h => hFc q h)⟩⟩ rfl rfl hl.1 rfl (lv_room (Nat.le_of_ble_eq_true rfl)) dX6_doGoes_3 ⟨Nat.le_of_ble_eq_true rfl, Nat.le_of_ble_eq_true rfl⟩) hS (fun q _ h => hFc q h) hFc (fun u tC H1 locs htC hvm hw_2 hB hz1 hk1 hS => ?_)
  obtain ⟨mdc9_3, sz_9_4, fEl9_5⟩ := u
  try dsimp only at hw_2 hB
  obtain ⟨hP1, hK1, hD1⟩ := hB
  rw [htC] at hP1
  have hK1 := va_K.moved hvm.symm hK1
  obtain ⟨hP, hD⟩ := va_join (wr := []) (w1 := [(zo1iri bo mdc9_3 aEl (nI sz_9_4)), (zaR aEl cEl 10 fEl9_5)]) hP hD [0, 1] [] rfl rfl (by decide) (by decide) hk1 hFc hP1 hD1
  have hK := (hK.sub (tys' := []) [] rfl).app hK1
  generalize H1 = H at hP hS ⊢
  have hP : va_P (dC, dI) vwCl [(zo1iri bo mdc9_3 aEl (nI sz_9_4)), (zaR aEl cEl 10 fEl9_5)] H := hP
  have hD : va_D A [(zo1iri bo mdc9_3 aEl (nI sz_9_4)), (zaR aEl cEl 10 fEl9_5)] := hD
  have hK : va_K (dC, dI) vwCl [(cEl, .object "java/lang/Object")] s := hK
  obtain ⟨e_6, hL_7⟩ := hw_2
  obtain rfl := (e_6).symm
  refine lv_aload_n hx hb dX6_doGoes_6 rfl (lv_at hl 0 rfl) ?_
  refine lv_iload_n hx hb dX6_doGoes_7 rfl (lv_at hl 1 rfl) ?_
  refine lv_aload_n hx hb dX6_doGoes_8 rfl (lv_at hl 2 rfl) ?_
  have hPc := hP.sub (ws' := [(zo1iri bo mdc9_3 aEl (nI (sz_ + 1))), (zaR aEl cEl 10 fEl9_5)]) [0, 1] rfl
  have hDc := hD.sub (ws' := [(zo1iri bo mdc9_3 aEl (nI (sz_ + 1))), (zaR aEl cEl 10 fEl9_5)]) [0, 1] (by decide) rfl
  have hKc := hK.sub (tys' := [(cEl, .object "java/lang/Object")]) [0] rfl
  have hFc := va_free (wc := [(zo1iri bo mdc9_3 aEl (nI (sz_ + 1))), (zaR aEl cEl 10 fEl9_5)]) hD hS hA [0, 1] rfl
  refine va_calli (va_runSU (hZ.2.1.1 8 (RX6, TX6, 4) rfl).2 (As := [.int x, .ref bo]) (rest := []) ⟨hx, hb, hml, hown, hts⟩ (c_X3_doGoes_X6_1 l dC dI ad cB bS    bo aEl i0 sk sv scl x cEl fEl9_5 a0 (sz_ + 1) mdc9_3 (tl ++ [21]) H.size (by omega) (hL_7)) (va_cwSU 2 hts gX6_doGoes_X3_doGoes_s17 rfl rfl rfl (by decide +kernel) ⟨Nat.le_of_ble_eq_true rfl, Nat.le_of_ble_eq_true rfl⟩) ⟨fun a U g mk q => by obtain ⟨q0, q1, qP, qK, qD, qhI_, qhB_, qhW_, qhZ⟩ := q; exact ⟨q0, mvz g mk a q1, mvP g mk a qP, mvK g mk a qK, qD, qhI_.mv g mk a, qhB_.mv g mk a, qhW_.mv g mk a, qhZ.mv g mk a⟩, va_recv hZ.2.1 (hZ.P hS) (ci := 8) (q := (RX6, TX6, 4)) (q0 := 0) rfl rfl, fun U hU hW => ⟨rfl, by rw [hU], by rw [hU]; exact hPc, va_K.moved hW.alike hKc, hDc.weaken (fun _ _ _ _ => trivial), hI_.call hS hU hW (fun q h => hFc q h), hB_.call hS hU hW (fun q h => hFc q h), hW_.call hS hU hW (fun q h => hFc q h), (hZ.sub [0] [] rfl rfl).call hS hU hW (fun q h => hFc q h)⟩⟩ rfl rfl hl.1 rfl (lv_room (Nat.le_of_ble_eq_true rfl)) dX6_doGoes_9 ⟨Nat.le_of_ble_eq_true rfl, Nat.le_of_ble_eq_true rfl⟩) hS (fun q _ h => hFc q h) hFc (fun r_8 u tC H1 locs htC hvm hw_9 hB hz1 hk1 hS => ?_)
  obtain ⟨mdc9_10, sz_9_11, fEl9_12⟩ := u
  try dsimp only at hw_9 hB
  obtain ⟨hP1, hK1, hD1⟩ := hB
  rw [htC] at hP1
  have hK1 := va_K.moved hvm.symm hK1
  obtain ⟨hP, hD⟩ := va_join (wr := []) (w1 := [(zo1iri bo mdc9_10 aEl (nI sz_9_11)), (zaR aEl cEl 10 fEl9_12)]) hP hD [0, 1] [] rfl rfl (by decide) (by decide) hk1 hFc hP1 hD1
  have hK := (hK.sub (tys' := []) [] rfl).app hK1
  generalize H1 = H at hP hS ⊢
  have hP : va_P (dC, dI) vwCl [(zo1iri bo mdc9_10 aEl (nI sz_9_11)), (zaR aEl cEl 10 fEl9_12)] H := hP
  have hD : va_D A [(zo1iri bo mdc9_10 aEl (nI sz_9_11)), (zaR aEl cEl 10 fEl9_12)] := hD
  have hK : va_K (dC, dI) vwCl [(cEl, .object "java/lang/Object")] s := hK
  obtain ⟨er_13, e_14, hL_15⟩ := hw_9
  obtain rfl := (e_14).symm
  subst er_13
  refine lv_ineg hx hb dX6_doGoes_12 ?_
  rw [hQ]
  have hP9 := hP.sub (ws' := [(zo1iri bo mdc9_10 aEl (nI ((sz_ + 1) + 2))), (zaR aEl cEl 10 fEl9_12)]) [0, 1] rfl
  have hD9 := hD.sub (ws' := [(zo1iri bo mdc9_10 aEl (nI ((sz_ + 1) + 2))), (zaR aEl cEl 10 fEl9_12)]) [0, 1] (by decide) rfl
  have hK9 := hK.sub (tys' := [(cEl, .object "java/lang/Object")]) [0] rfl
  exact W.iret (v := -((x + nI i0) - sv)) hx hb hr (fun tQ htQ hWQ => ⟨⟨(-((x + nI i0) - sv)), (mdc9_10, ((sz_ + 1) + 2), fEl9_12), rfl, ⟨rfl, by omega, by have h9 := okL_as (hL_15); exact h9⟩, by rw [htQ]; exact hP9, va_K.moved hWQ.alike hK9, hD9⟩, hS.F htQ⟩) hS.2.2 dX6_doGoes_13

set_option maxHeartbeats 4000000 in
set_option maxRecDepth 100000 in
theorem c_X6_doGoes_X6_0 (l : Launch) (dC : Nat → ClassId) (dI : Nat → Nat → Nat) (ad : Nat → Nat) (cB bS : Nat)    (bo : Nat) (i0 : Nat) (sk : Int32) (sv : Int32) (scl : Int32) (x : Int32) (a0 : Nat) (mdc : Int32) (sz : Nat) : Met l yX6_doGoes wsX6_doGoes ({ frames := 6, cells := 1, slots := 10, locals := 122 } : Room) (va_Pc [.ref a0, .int x, .ref bo] (fun U => U.heap.size = sz ∧ va_P (dC, dI) vwCl [(zo1iri bo mdc bS 0)] U.heap ∧ va_K (dC, dI) vwCl [] U ∧ va_D (fun _ => True) [(zo1iri bo mdc bS 0)] ∧ Gi ad cB bS (va_A [(zo1iri bo mdc bS 0)] sz) U ∧ Gb (va_A [(zo1iri bo mdc bS 0)] sz) U ∧ Gw (va_A [(zo1iri bo mdc bS 0)] sz) U ∧ Fz dC dI [(zo8iiii a0 sk (nI i0) sv scl)] [] (va_A [(zo1iri bo mdc bS 0)] sz) U)) (va_Qi (fun (r : Int32) (u : (Int32) × (Nat) × (ClassId) × (Nat) × (Nat → Option Nat)) => match u with | (mdc9, aEl9, cEl9, sz_9, fEl9) => r = -((x + nI i0) - sv) ∧ sz_9 = 3 ∧ okL ad fEl9 sz_9 [21, 2, 1]) (fun (u : (Int32) × (Nat) × (ClassId) × (Nat) × (Nat → Option Nat)) (t : State) => match u with | (mdc9, aEl9, cEl9, sz_9, fEl9) => va_P (dC, dI) vwCl [(zo1iri bo mdc9 aEl9 (nI sz_9)), (zaR aEl9 cEl9 10 fEl9)] t.heap ∧ va_K (dC, dI) vwCl [(cEl9, .object "java/lang/Object")] t ∧ va_D (va_A [(zo1iri bo mdc bS 0)] sz) [(zo1iri bo mdc9 aEl9 (nI sz_9)), (zaR aEl9 cEl9 10 fEl9)]) (va_A [(zo1iri bo mdc bS 0)] sz)) 1 10 (va_A [(zo1iri bo mdc bS 0)] sz) := by
  refine met_ofQ (cc := cX6_doGoes) (maxL := 3) (ret := (some .int)) (by decide) rfl ?_
  intro p e s m args below meth c s₁ Q B hml hv hQ
  obtain ⟨rfl, hsz, hP, hK, hD0, hI_, hB_, hW_, hZ⟩ := hv
  have hx := B.exec
  have hb := B.bytes
  have hr := B.returns
  have hts := atoms_spec (ws := wsX6_doGoes) B.pre
  have hown : s.vm.findClass RX6 = some m.cls := findClass_of_methodNamed B.named
  have hlocks := B.notSynchronized
  subst hsz
  have hD := hD0.self (sz := s.heap.size)
  generalize hAe : va_A [(zo1iri bo mdc bS 0)] s.heap.size = A at hD hQ hI_ hB_ hW_ hZ ⊢
  have hA : ∀ q : Nat, s.heap.size ≤ q → A q := fun q h => by rw [← hAe]; exact Or.inr h
  have hS : va_S A s.heap s.heap [] := va_S.rf
  have hl := lv_entry [.ref a0, .int x, .ref bo] (n := 3) (Nat.le_of_ble_eq_true rfl)
  rw [lg_entry_eq]
  generalize (lg_sl [.ref a0, .int x, .ref bo] ++ List.replicate (3 - (lg_sl [.ref a0, .int x, .ref bo]).length) Slot.unset).toArray = ls at hl ⊢
  generalize hag : ([.ref a0, .int x, .ref bo] : List Value).toArray = args at hts hQ ⊢
  have hl : lv_has ls 3 [(0, .ref a0), (1, .int x), (2, .ref bo)] := hl
  obtain ⟨H, hH⟩ : ∃ H : Heap, H = s.heap := ⟨_, rfl⟩
  rw [← hH] at hP
  rw [← hH]
  have hS : va_S A s.heap H [] := by rw [hH]; exact hS
  obtain ⟨locs, hlo⟩ : ∃ L : List Loc, L = [] := ⟨_, rfl⟩
  rw [← hlo] at hS
  rw [← hlo]
  clear hH hlo
  refine lv_bipush (v := 21) hx hb dX6_doGoes_0 (by decide) ?_
  refine lv_aload_n hx hb dX6_doGoes_2 rfl (lv_at hl 2 rfl) ?_
  have hPc := hP.sub (ws' := [(zo1iri bo mdc bS 0)]) [0] rfl
  have hDc := hD.sub (ws' := [(zo1iri bo mdc bS 0)]) [0] (by decide) rfl
  have hKc := hK.sub (tys' := []) [] rfl
  have hFc := va_free (wc := [(zo1iri bo mdc bS 0)]) hD hS hA [0] rfl
  refine va_callv (va_runU2 (As := [.int 21, .ref bo]) (rest := []) ⟨hx, hb, hml, hown, hts⟩ (c_begin0 l dC dI ad cB bS bo mdc 21 H.size (by omega)) (u2_cw (x := xb6) 2 hB_ inb6 rfl rfl rfl rfl rfl (by decide +kernel) ⟨Nat.le_of_ble_eq_true rfl, Nat.le_of_ble_eq_true rfl⟩) ⟨fun a U g mk q => by obtain ⟨q0, q1, qP, qK, qD, qhI_⟩ := q; exact ⟨q0, mvz g mk a q1, mvP g mk a qP, mvK g mk a qK, qD, qhI_.mv g mk a⟩, fun U hU hW => ⟨rfl, by rw [hU], by rw [hU]; exact hPc, va_K.moved hW.alike hKc, hDc.weaken (fun _ _ _ _ => trivial), hI_.call hS hU hW (fun q h => hFc q h)⟩⟩ rfl rfl hl.1 rfl (lv_room (Nat.le_of_ble_eq_true rfl)) dX6_doGoes_3 ⟨Nat.le_of_ble_eq_true rfl, Nat.le_of_ble_eq_true rfl⟩) hS (fun q _ h => hFc q h) hFc (fun u tC H1 locs htC hvm hw_2 hB hz1 hk1 hS => ?_)
  obtain ⟨mdc9_3, aEl9_4, cEl9_5, sz_9_6, fEl9_7⟩ := u
  try dsimp only at hw_2 hB
  obtain ⟨hP1, hK1, hD1⟩ := hB
  rw [htC] at hP1
  have hK1 := va_K.moved hvm.symm hK1
  obtain ⟨hP, hD⟩ := va_join (wr := []) (w1 := [(zo1iri bo mdc9_3 aEl9_4 (nI sz_9_6)), (zaR aEl9_4 cEl9_5 10 fEl9_7)]) hP hD [0] [] rfl rfl (by decide) (by decide) hk1 hFc hP1 hD1
  have hK := (hK.sub (tys' := []) [] rfl).app hK1
  generalize H1 = H at hP hS ⊢
  have hP : va_P (dC, dI) vwCl [(zo1iri bo mdc9_3 aEl9_4 (nI sz_9_6)), (zaR aEl9_4 cEl9_5 10 fEl9_7)] H := hP
  have hD : va_D A [(zo1iri bo mdc9_3 aEl9_4 (nI sz_9_6)), (zaR aEl9_4 cEl9_5 10 fEl9_7)] := hD
  have hK : va_K (dC, dI) vwCl [(cEl9_5, .object "java/lang/Object")] s := hK
  refine W.widen (k := 1) (n := 10) (by omega) (by omega) ?_
  obtain ⟨e_8, hL_9⟩ := hw_2
  obtain rfl := (e_8).symm
  refine lv_aload_n hx hb dX6_doGoes_6 rfl (lv_at hl 0 rfl) ?_
  refine lv_iload_n hx hb dX6_doGoes_7 rfl (lv_at hl 1 rfl) ?_
  refine lv_aload_n hx hb dX6_doGoes_8 rfl (lv_at hl 2 rfl) ?_
  have hPc := hP.sub (ws' := [(zo1iri bo mdc9_3 aEl9_4 (nI 1)), (zaR aEl9_4 cEl9_5 10 fEl9_7)]) [0, 1] rfl
  have hDc := hD.sub (ws' := [(zo1iri bo mdc9_3 aEl9_4 (nI 1)), (zaR aEl9_4 cEl9_5 10 fEl9_7)]) [0, 1] (by decide) rfl
  have hKc := hK.sub (tys' := [(cEl9_5, .object "java/lang/Object")]) [0] rfl
  have hFc := va_free (wc := [(zo1iri bo mdc9_3 aEl9_4 (nI 1)), (zaR aEl9_4 cEl9_5 10 fEl9_7)]) hD hS hA [0, 1] rfl
  refine va_calli (va_runSU (hZ.2.1.1 8 (RX6, TX6, 4) rfl).2 (As := [.int x, .ref bo]) (rest := []) ⟨hx, hb, hml, hown, hts⟩ (c_X3_doGoes_X6_1 l dC dI ad cB bS    bo aEl9_4 i0 sk sv scl x cEl9_5 fEl9_7 a0 1 mdc9_3 ([21]) H.size (by omega) (hL_9)) (va_cwSU 2 hts gX6_doGoes_X3_doGoes_s17 rfl rfl rfl (by decide +kernel) ⟨Nat.le_of_ble_eq_true rfl, Nat.le_of_ble_eq_true rfl⟩) ⟨fun a U g mk q => by obtain ⟨q0, q1, qP, qK, qD, qhI_, qhB_, qhW_, qhZ⟩ := q; exact ⟨q0, mvz g mk a q1, mvP g mk a qP, mvK g mk a qK, qD, qhI_.mv g mk a, qhB_.mv g mk a, qhW_.mv g mk a, qhZ.mv g mk a⟩, va_recv hZ.2.1 (hZ.P hS) (ci := 8) (q := (RX6, TX6, 4)) (q0 := 0) rfl rfl, fun U hU hW => ⟨rfl, by rw [hU], by rw [hU]; exact hPc, va_K.moved hW.alike hKc, hDc.weaken (fun _ _ _ _ => trivial), hI_.call hS hU hW (fun q h => hFc q h), hB_.call hS hU hW (fun q h => hFc q h), hW_.call hS hU hW (fun q h => hFc q h), (hZ.sub [0] [] rfl rfl).call hS hU hW (fun q h => hFc q h)⟩⟩ rfl rfl hl.1 rfl (lv_room (Nat.le_of_ble_eq_true rfl)) dX6_doGoes_9 ⟨Nat.le_of_ble_eq_true rfl, Nat.le_of_ble_eq_true rfl⟩) hS (fun q _ h => hFc q h) hFc (fun r_10 u tC H1 locs htC hvm hw_11 hB hz1 hk1 hS => ?_)
  obtain ⟨mdc9_12, sz_9_13, fEl9_14⟩ := u
  try dsimp only at hw_11 hB
  obtain ⟨hP1, hK1, hD1⟩ := hB
  rw [htC] at hP1
  have hK1 := va_K.moved hvm.symm hK1
  obtain ⟨hP, hD⟩ := va_join (wr := []) (w1 := [(zo1iri bo mdc9_12 aEl9_4 (nI sz_9_13)), (zaR aEl9_4 cEl9_5 10 fEl9_14)]) hP hD [0, 1] [] rfl rfl (by decide) (by decide) hk1 hFc hP1 hD1
  have hK := (hK.sub (tys' := []) [] rfl).app hK1
  generalize H1 = H at hP hS ⊢
  have hP : va_P (dC, dI) vwCl [(zo1iri bo mdc9_12 aEl9_4 (nI sz_9_13)), (zaR aEl9_4 cEl9_5 10 fEl9_14)] H := hP
  have hD : va_D A [(zo1iri bo mdc9_12 aEl9_4 (nI sz_9_13)), (zaR aEl9_4 cEl9_5 10 fEl9_14)] := hD
  have hK : va_K (dC, dI) vwCl [(cEl9_5, .object "java/lang/Object")] s := hK
  obtain ⟨er_15, e_16, hL_17⟩ := hw_11
  obtain rfl := (e_16).symm
  subst er_15
  refine lv_ineg hx hb dX6_doGoes_12 ?_
  rw [hQ]
  have hP9 := hP.sub (ws' := [(zo1iri bo mdc9_12 aEl9_4 (nI (1 + 2))), (zaR aEl9_4 cEl9_5 10 fEl9_14)]) [0, 1] rfl
  have hD9 := hD.sub (ws' := [(zo1iri bo mdc9_12 aEl9_4 (nI (1 + 2))), (zaR aEl9_4 cEl9_5 10 fEl9_14)]) [0, 1] (by decide) rfl
  have hK9 := hK.sub (tys' := [(cEl9_5, .object "java/lang/Object")]) [0] rfl
  refine W.widen (k := 1) (n := 10) (by omega) (by omega) ?_
  exact W.iret (v := -((x + nI i0) - sv)) hx hb hr (fun tQ htQ hWQ => ⟨⟨(-((x + nI i0) - sv)), (mdc9_12, aEl9_4, cEl9_5, (1 + 2), fEl9_14), rfl, ⟨rfl, by omega, hL_17⟩, by rw [htQ]; exact hP9, va_K.moved hWQ.alike hK9, hD9⟩, hS.F htQ⟩) hS.2.2 dX6_doGoes_13

theorem kc_X3_doLooks_X6_1_0 : (.code yX3_doGoes cX3_doGoes 3 (some .int) : Cond) ∈ wsX3_doLooks := kc_of 1049 rfl rfl rfl
set_option maxHeartbeats 4000000 in
set_option maxRecDepth 100000 in
theorem c_X3_doLooks_X6_1 (l : Launch) (dC : Nat → ClassId) (dI : Nat → Nat → Nat) (ad : Nat → Nat) (cB bS : Nat)    (bo : Nat) (aEl : Nat) (i0 : Nat) (sk : Int32) (sv : Int32) (scl : Int32) (x : Int32) (cEl : ClassId) (fEl : Nat → Option Nat) (a0 : Nat) (sz_ : Nat) (mdc : Int32) (tl : List Nat) (sz : Nat) (hsz : sz_ + 4 ≤ 10) (zL : okL ad fEl sz_ tl) : Met l yX3_doLooks wsX3_doLooks ({ frames := 6, cells := 0, slots := 0, locals := 131 } : Room) (va_Pc [.ref a0, .int x, .ref bo] (fun U => U.heap.size = sz ∧ va_P (dC, dI) vwCl [(zo1iri bo mdc aEl (nI sz_)), (zaR aEl cEl 10 fEl)] U.heap ∧ va_K (dC, dI) vwCl [(cEl, .object "java/lang/Object")] U ∧ va_D (fun _ => True) [(zo1iri bo mdc aEl (nI sz_)), (zaR aEl cEl 10 fEl)] ∧ Gi ad cB bS (va_A [(zo1iri bo mdc aEl (nI sz_)), (zaR aEl cEl 10 fEl)] sz) U ∧ Gb (va_A [(zo1iri bo mdc aEl (nI sz_)), (zaR aEl cEl 10 fEl)] sz) U ∧ Gw (va_A [(zo1iri bo mdc aEl (nI sz_)), (zaR aEl cEl 10 fEl)] sz) U ∧ Fz dC dI [(zo8iiii a0 sk (nI i0) sv scl)] [] (va_A [(zo1iri bo mdc aEl (nI sz_)), (zaR aEl cEl 10 fEl)] sz) U)) (va_Qi (fun (r : Int32) (u : (Int32) × (Nat) × (Nat → Option Nat)) => match u with | (mdc9, sz_9, fEl9) => r = (-((x + nI i0) - sv)) * 2 ∧ sz_9 = sz_ + 4 ∧ okL ad fEl9 sz_9 (tl ++ [3, 21, 2, 1])) (fun (u : (Int32) × (Nat) × (Nat → Option Nat)) (t : State) => match u with | (mdc9, sz_9, fEl9) => va_P (dC, dI) vwCl [(zo1iri bo mdc9 aEl (nI sz_9)), (zaR aEl cEl 10 fEl9)] t.heap ∧ va_K (dC, dI) vwCl [(cEl, .object "java/lang/Object")] t ∧ va_D (va_A [(zo1iri bo mdc aEl (nI sz_)), (zaR aEl cEl 10 fEl)] sz) [(zo1iri bo mdc9 aEl (nI sz_9)), (zaR aEl cEl 10 fEl9)]) (va_A [(zo1iri bo mdc aEl (nI sz_)), (zaR aEl cEl 10 fEl)] sz)) 0 0 (va_A [(zo1iri bo mdc aEl (nI sz_)), (zaR aEl cEl 10 fEl)] sz) := by
  refine met_ofQ (cc := cX3_doLooks) (maxL := 3) (ret := (some .int)) (by decide) rfl ?_
  intro p e s m args below meth c s₁ Q B hml hv hQ
  obtain ⟨rfl, hsz, hP, hK, hD0, hI_, hB_, hW_, hZ⟩ := hv
  have hx := B.exec
  have hb := B.bytes
  have hr := B.returns
  have hts := atoms_spec (ws := wsX3_doLooks) B.pre
  have hown : s.vm.findClass RX3 = some m.cls := findClass_of_methodNamed B.named
  have hlocks := B.notSynchronized
  subst hsz
  have hD := hD0.self (sz := s.heap.size)
  generalize hAe : va_A [(zo1iri bo mdc aEl (nI sz_)), (zaR aEl cEl 10 fEl)] s.heap.size = A at hD hQ hI_ hB_ hW_ hZ ⊢
  have hA : ∀ q : Nat, s.heap.size ≤ q → A q := fun q h => by rw [← hAe]; exact Or.inr h
  have hS : va_S A s.heap s.heap [] := va_S.rf
  have hl := lv_entry [.ref a0, .int x, .ref bo] (n := 3) (Nat.le_of_ble_eq_true rfl)
  rw [lg_entry_eq]
  generalize (lg_sl [.ref a0, .int x, .ref bo] ++ List.replicate (3 - (lg_sl [.ref a0, .int x, .ref bo]).length) Slot.unset).toArray = ls at hl ⊢
  generalize hag : ([.ref a0, .int x, .ref bo] : List Value).toArray = args at hts hQ ⊢
  have hl : lv_has ls 3 [(0, .ref a0), (1, .int x), (2, .ref bo)] := hl
  obtain ⟨H, hH⟩ : ∃ H : Heap, H = s.heap := ⟨_, rfl⟩
  rw [← hH] at hP
  rw [← hH]
  have hS : va_S A s.heap H [] := by rw [hH]; exact hS
  obtain ⟨locs, hlo⟩ : ∃ L : List Loc, L = [] := ⟨_, rfl⟩
  rw [← hlo] at hS
  rw [← hlo]
  clear hH hlo
  refine lv_iconst (v := 3) hx hb dX3_doLooks_0 (by decide) ?_
  refine lv_aload_n hx hb dX3_doLooks_1 rfl (lv_at hl 2 rfl) ?_
  have hPc := hP.sub (ws' := [(zo1iri bo mdc aEl (nI sz_)), (zaR aEl cEl 10 fEl)]) [0, 1] rfl
  have hDc := hD.sub (ws' := [(zo1iri bo mdc aEl (nI sz_)), (zaR aEl cEl 10 fEl)]) [0, 1] (by decide) rfl
  have hKc := hK.sub (tys' := [(cEl, .object "java/lang/Object")]) [0] rfl
  have hFc := va_free (wc := [(zo1iri bo mdc aEl (nI sz_)), (zaR aEl cEl 10 fEl)]) hD hS hA [0, 1] rfl
  refine va_callv (va_runS (As := [.int 3, .ref bo]) (rest := []) ⟨hx, hb, hml, hown, hts⟩ (c_begin1 l dC dI ad cB bS bo aEl 3 cEl fEl sz_ mdc tl H.size (by omega) (by omega) (zL)) (va_cwS 2 hts gX3_doLooks_X3_begin rfl rfl rfl hd_yX3_begin.2 ⟨Nat.le_of_ble_eq_true rfl, Nat.le_of_ble_eq_true rfl⟩) ⟨fun a U g mk q => by obtain ⟨q0, q1, qP, qK, qD, qhI_⟩ := q; exact ⟨q0, mvz g mk a q1, mvP g mk a qP, mvK g mk a qK, qD, qhI_.mv g mk a⟩, fun U hU hW => ⟨rfl, by rw [hU], by rw [hU]; exact hPc, va_K.moved hW.alike hKc, hDc.weaken (fun _ _ _ _ => trivial), hI_.call hS hU hW (fun q h => hFc q h)⟩⟩ rfl rfl hl.1 rfl (lv_room (Nat.le_of_ble_eq_true rfl)) dX3_doLooks_2 ⟨Nat.le_of_ble_eq_true rfl, Nat.le_of_ble_eq_true rfl⟩) hS (fun q _ h => hFc q h) hFc (fun u tC H1 locs htC hvm hw_2 hB hz1 hk1 hS => ?_)
  obtain ⟨mdc9_3, sz_9_4, fEl9_5⟩ := u
  try dsimp only at hw_2 hB
  obtain ⟨hP1, hK1, hD1⟩ := hB
  rw [htC] at hP1
  have hK1 := va_K.moved hvm.symm hK1
  obtain ⟨hP, hD⟩ := va_join (wr := []) (w1 := [(zo1iri bo mdc9_3 aEl (nI sz_9_4)), (zaR aEl cEl 10 fEl9_5)]) hP hD [0, 1] [] rfl rfl (by decide) (by decide) hk1 hFc hP1 hD1
  have hK := (hK.sub (tys' := []) [] rfl).app hK1
  generalize H1 = H at hP hS ⊢
  have hP : va_P (dC, dI) vwCl [(zo1iri bo mdc9_3 aEl (nI sz_9_4)), (zaR aEl cEl 10 fEl9_5)] H := hP
  have hD : va_D A [(zo1iri bo mdc9_3 aEl (nI sz_9_4)), (zaR aEl cEl 10 fEl9_5)] := hD
  have hK : va_K (dC, dI) vwCl [(cEl, .object "java/lang/Object")] s := hK
  obtain ⟨e_6, hL_7⟩ := hw_2
  obtain rfl := (e_6).symm
  refine lv_aload_n hx hb dX3_doLooks_5 rfl (lv_at hl 0 rfl) ?_
  refine lv_iload_n hx hb dX3_doLooks_6 rfl (lv_at hl 1 rfl) ?_
  refine lv_aload_n hx hb dX3_doLooks_7 rfl (lv_at hl 2 rfl) ?_
  have hPc := hP.sub (ws' := [(zo1iri bo mdc9_3 aEl (nI (sz_ + 1))), (zaR aEl cEl 10 fEl9_5)]) [0, 1] rfl
  have hDc := hD.sub (ws' := [(zo1iri bo mdc9_3 aEl (nI (sz_ + 1))), (zaR aEl cEl 10 fEl9_5)]) [0, 1] (by decide) rfl
  have hKc := hK.sub (tys' := [(cEl, .object "java/lang/Object")]) [0] rfl
  have hFc := va_free (wc := [(zo1iri bo mdc9_3 aEl (nI (sz_ + 1))), (zaR aEl cEl 10 fEl9_5)]) hD hS hA [0, 1] rfl
  refine va_calli (va_runU (As := [.int x, .ref bo]) (rest := []) ⟨hx, hb, hml, hown, hts⟩ (c_X6_doGoes_X6_1 l dC dI ad cB bS    bo aEl i0 sk sv scl x cEl fEl9_5 a0 (sz_ + 1) mdc9_3 (tl ++ [3]) H.size (by omega) (hL_7)) (va_cwO 2 hts gX3_doLooks_X6_doGoes_u42X6 rfl rfl rfl kc_X3_doLooks_X6_1_0 (by decide +kernel) ⟨Nat.le_of_ble_eq_true rfl, Nat.le_of_ble_eq_true rfl⟩) ⟨fun a U g mk q => by obtain ⟨q0, q1, qP, qK, qD, qhI_, qhB_, qhW_, qhZ⟩ := q; exact ⟨q0, mvz g mk a q1, mvP g mk a qP, mvK g mk a qK, qD, qhI_.mv g mk a, qhB_.mv g mk a, qhW_.mv g mk a, qhZ.mv g mk a⟩, va_recv hZ.2.1 (hZ.P hS) (ci := 8) (q := (RX6, TX6, 4)) (q0 := 0) rfl rfl, fun U hU hW => ⟨rfl, by rw [hU], by rw [hU]; exact hPc, va_K.moved hW.alike hKc, hDc.weaken (fun _ _ _ _ => trivial), hI_.call hS hU hW (fun q h => hFc q h), hB_.call hS hU hW (fun q h => hFc q h), hW_.call hS hU hW (fun q h => hFc q h), (hZ.sub [0] [] rfl rfl).call hS hU hW (fun q h => hFc q h)⟩⟩ rfl rfl hl.1 rfl (lv_room (Nat.le_of_ble_eq_true rfl)) dX3_doLooks_8 ⟨Nat.le_of_ble_eq_true rfl, Nat.le_of_ble_eq_true rfl⟩) hS (fun q _ h => hFc q h) hFc (fun r_8 u tC H1 locs htC hvm hw_9 hB hz1 hk1 hS => ?_)
  obtain ⟨mdc9_10, sz_9_11, fEl9_12⟩ := u
  try dsimp only at hw_9 hB
  obtain ⟨hP1, hK1, hD1⟩ := hB
  rw [htC] at hP1
  have hK1 := va_K.moved hvm.symm hK1
  obtain ⟨hP, hD⟩ := va_join (wr := []) (w1 := [(zo1iri bo mdc9_10 aEl (nI sz_9_11)), (zaR aEl cEl 10 fEl9_12)]) hP hD [0, 1] [] rfl rfl (by decide) (by decide) hk1 hFc hP1 hD1
  have hK := (hK.sub (tys' := []) [] rfl).app hK1
  generalize H1 = H at hP hS ⊢
  have hP : va_P (dC, dI) vwCl [(zo1iri bo mdc9_10 aEl (nI sz_9_11)), (zaR aEl cEl 10 fEl9_12)] H := hP
  have hD : va_D A [(zo1iri bo mdc9_10 aEl (nI sz_9_11)), (zaR aEl cEl 10 fEl9_12)] := hD
  have hK : va_K (dC, dI) vwCl [(cEl, .object "java/lang/Object")] s := hK
  obtain ⟨er_13, e_14, hL_15⟩ := hw_9
  obtain rfl := (e_14).symm
  subst er_13
  refine lv_iconst (v := 2) hx hb dX3_doLooks_11 (by decide) ?_
  refine lv_imul hx hb dX3_doLooks_12 ?_
  rw [hQ]
  have hP9 := hP.sub (ws' := [(zo1iri bo mdc9_10 aEl (nI ((sz_ + 1) + 3))), (zaR aEl cEl 10 fEl9_12)]) [0, 1] rfl
  have hD9 := hD.sub (ws' := [(zo1iri bo mdc9_10 aEl (nI ((sz_ + 1) + 3))), (zaR aEl cEl 10 fEl9_12)]) [0, 1] (by decide) rfl
  have hK9 := hK.sub (tys' := [(cEl, .object "java/lang/Object")]) [0] rfl
  exact W.iret (v := (-((x + nI i0) - sv)) * 2) hx hb hr (fun tQ htQ hWQ => ⟨⟨((-((x + nI i0) - sv)) * 2), (mdc9_10, ((sz_ + 1) + 3), fEl9_12), rfl, ⟨rfl, by omega, by have h9 := okL_as (hL_15); exact h9⟩, by rw [htQ]; exact hP9, va_K.moved hWQ.alike hK9, hD9⟩, hS.F htQ⟩) hS.2.2 dX3_doLooks_13

theorem kc_X3_doLooks_X6_0_0 : (.code yX3_doGoes cX3_doGoes 3 (some .int) : Cond) ∈ wsX3_doLooks := kc_of 1049 rfl rfl rfl
set_option maxHeartbeats 4000000 in
set_option maxRecDepth 100000 in
theorem c_X3_doLooks_X6_0 (l : Launch) (dC : Nat → ClassId) (dI : Nat → Nat → Nat) (ad : Nat → Nat) (cB bS : Nat)    (bo : Nat) (i0 : Nat) (sk : Int32) (sv : Int32) (scl : Int32) (x : Int32) (a0 : Nat) (mdc : Int32) (sz : Nat) : Met l yX3_doLooks wsX3_doLooks ({ frames := 6, cells := 1, slots := 10, locals := 131 } : Room) (va_Pc [.ref a0, .int x, .ref bo] (fun U => U.heap.size = sz ∧ va_P (dC, dI) vwCl [(zo1iri bo mdc bS 0)] U.heap ∧ va_K (dC, dI) vwCl [] U ∧ va_D (fun _ => True) [(zo1iri bo mdc bS 0)] ∧ Gi ad cB bS (va_A [(zo1iri bo mdc bS 0)] sz) U ∧ Gb (va_A [(zo1iri bo mdc bS 0)] sz) U ∧ Gw (va_A [(zo1iri bo mdc bS 0)] sz) U ∧ Fz dC dI [(zo8iiii a0 sk (nI i0) sv scl)] [] (va_A [(zo1iri bo mdc bS 0)] sz) U)) (va_Qi (fun (r : Int32) (u : (Int32) × (Nat) × (ClassId) × (Nat) × (Nat → Option Nat)) => match u with | (mdc9, aEl9, cEl9, sz_9, fEl9) => r = (-((x + nI i0) - sv)) * 2 ∧ sz_9 = 4 ∧ okL ad fEl9 sz_9 [3, 21, 2, 1]) (fun (u : (Int32) × (Nat) × (ClassId) × (Nat) × (Nat → Option Nat)) (t : State) => match u with | (mdc9, aEl9, cEl9, sz_9, fEl9) => va_P (dC, dI) vwCl [(zo1iri bo mdc9 aEl9 (nI sz_9)), (zaR aEl9 cEl9 10 fEl9)] t.heap ∧ va_K (dC, dI) vwCl [(cEl9, .object "java/lang/Object")] t ∧ va_D (va_A [(zo1iri bo mdc bS 0)] sz) [(zo1iri bo mdc9 aEl9 (nI sz_9)), (zaR aEl9 cEl9 10 fEl9)]) (va_A [(zo1iri bo mdc bS 0)] sz)) 1 10 (va_A [(zo1iri bo mdc bS 0)] sz) := by
  refine met_ofQ (cc := cX3_doLooks) (maxL := 3) (ret := (some .int)) (by decide) rfl ?_
  intro p e s m args below meth c s₁ Q B hml hv hQ
  obtain ⟨rfl, hsz, hP, hK, hD0, hI_, hB_, hW_, hZ⟩ := hv
  have hx := B.exec
  have hb := B.bytes
  have hr := B.returns
  have hts := atoms_spec (ws := wsX3_doLooks) B.pre
  have hown : s.vm.findClass RX3 = some m.cls := findClass_of_methodNamed B.named
  have hlocks := B.notSynchronized
  subst hsz
  have hD := hD0.self (sz := s.heap.size)
  generalize hAe : va_A [(zo1iri bo mdc bS 0)] s.heap.size = A at hD hQ hI_ hB_ hW_ hZ ⊢
  have hA : ∀ q : Nat, s.heap.size ≤ q → A q := fun q h => by rw [← hAe]; exact Or.inr h
  have hS : va_S A s.heap s.heap [] := va_S.rf
  have hl := lv_entry [.ref a0, .int x, .ref bo] (n := 3) (Nat.le_of_ble_eq_true rfl)
  rw [lg_entry_eq]
  generalize (lg_sl [.ref a0, .int x, .ref bo] ++ List.replicate (3 - (lg_sl [.ref a0, .int x, .ref bo]).length) Slot.unset).toArray = ls at hl ⊢
  generalize hag : ([.ref a0, .int x, .ref bo] : List Value).toArray = args at hts hQ ⊢
  have hl : lv_has ls 3 [(0, .ref a0), (1, .int x), (2, .ref bo)] := hl
  obtain ⟨H, hH⟩ : ∃ H : Heap, H = s.heap := ⟨_, rfl⟩
  rw [← hH] at hP
  rw [← hH]
  have hS : va_S A s.heap H [] := by rw [hH]; exact hS
  obtain ⟨locs, hlo⟩ : ∃ L : List Loc, L = [] := ⟨_, rfl⟩
  rw [← hlo] at hS
  rw [← hlo]
  clear hH hlo
  refine lv_iconst (v := 3) hx hb dX3_doLooks_0 (by decide) ?_
  refine lv_aload_n hx hb dX3_doLooks_1 rfl (lv_at hl 2 rfl) ?_
  have hPc := hP.sub (ws' := [(zo1iri bo mdc bS 0)]) [0] rfl
  have hDc := hD.sub (ws' := [(zo1iri bo mdc bS 0)]) [0] (by decide) rfl
  have hKc := hK.sub (tys' := []) [] rfl
  have hFc := va_free (wc := [(zo1iri bo mdc bS 0)]) hD hS hA [0] rfl
  refine va_callv (va_runS (As := [.int 3, .ref bo]) (rest := []) ⟨hx, hb, hml, hown, hts⟩ (c_begin0 l dC dI ad cB bS bo mdc 3 H.size (by omega)) (va_cwS 2 hts gX3_doLooks_X3_begin rfl rfl rfl hd_yX3_begin.2 ⟨Nat.le_of_ble_eq_true rfl, Nat.le_of_ble_eq_true rfl⟩) ⟨fun a U g mk q => by obtain ⟨q0, q1, qP, qK, qD, qhI_⟩ := q; exact ⟨q0, mvz g mk a q1, mvP g mk a qP, mvK g mk a qK, qD, qhI_.mv g mk a⟩, fun U hU hW => ⟨rfl, by rw [hU], by rw [hU]; exact hPc, va_K.moved hW.alike hKc, hDc.weaken (fun _ _ _ _ => trivial), hI_.call hS hU hW (fun q h => hFc q h)⟩⟩ rfl rfl hl.1 rfl (lv_room (Nat.le_of_ble_eq_true rfl)) dX3_doLooks_2 ⟨Nat.le_of_ble_eq_true rfl, Nat.le_of_ble_eq_true rfl⟩) hS (fun q _ h => hFc q h) hFc (fun u tC H1 locs htC hvm hw_2 hB hz1 hk1 hS => ?_)
  obtain ⟨mdc9_3, aEl9_4, cEl9_5, sz_9_6, fEl9_7⟩ := u
  try dsimp only at hw_2 hB
  obtain ⟨hP1, hK1, hD1⟩ := hB
  rw [htC] at hP1
  have hK1 := va_K.moved hvm.symm hK1
  obtain ⟨hP, hD⟩ := va_join (wr := []) (w1 := [(zo1iri bo mdc9_3 aEl9_4 (nI sz_9_6)), (zaR aEl9_4 cEl9_5 10 fEl9_7)]) hP hD [0] [] rfl rfl (by decide) (by decide) hk1 hFc hP1 hD1
  have hK := (hK.sub (tys' := []) [] rfl).app hK1
  generalize H1 = H at hP hS ⊢
  have hP : va_P (dC, dI) vwCl [(zo1iri bo mdc9_3 aEl9_4 (nI sz_9_6)), (zaR aEl9_4 cEl9_5 10 fEl9_7)] H := hP
  have hD : va_D A [(zo1iri bo mdc9_3 aEl9_4 (nI sz_9_6)), (zaR aEl9_4 cEl9_5 10 fEl9_7)] := hD
  have hK : va_K (dC, dI) vwCl [(cEl9_5, .object "java/lang/Object")] s := hK
  refine W.widen (k := 1) (n := 10) (by omega) (by omega) ?_
  obtain ⟨e_8, hL_9⟩ := hw_2
  obtain rfl := (e_8).symm
  refine lv_aload_n hx hb dX3_doLooks_5 rfl (lv_at hl 0 rfl) ?_
  refine lv_iload_n hx hb dX3_doLooks_6 rfl (lv_at hl 1 rfl) ?_
  refine lv_aload_n hx hb dX3_doLooks_7 rfl (lv_at hl 2 rfl) ?_
  have hPc := hP.sub (ws' := [(zo1iri bo mdc9_3 aEl9_4 (nI 1)), (zaR aEl9_4 cEl9_5 10 fEl9_7)]) [0, 1] rfl
  have hDc := hD.sub (ws' := [(zo1iri bo mdc9_3 aEl9_4 (nI 1)), (zaR aEl9_4 cEl9_5 10 fEl9_7)]) [0, 1] (by decide) rfl
  have hKc := hK.sub (tys' := [(cEl9_5, .object "java/lang/Object")]) [0] rfl
  have hFc := va_free (wc := [(zo1iri bo mdc9_3 aEl9_4 (nI 1)), (zaR aEl9_4 cEl9_5 10 fEl9_7)]) hD hS hA [0, 1] rfl
  refine va_calli (va_runU (As := [.int x, .ref bo]) (rest := []) ⟨hx, hb, hml, hown, hts⟩ (c_X6_doGoes_X6_1 l dC dI ad cB bS    bo aEl9_4 i0 sk sv scl x cEl9_5 fEl9_7 a0 1 mdc9_3 ([3]) H.size (by omega) (hL_9)) (va_cwO 2 hts gX3_doLooks_X6_doGoes_u42X6 rfl rfl rfl kc_X3_doLooks_X6_0_0 (by decide +kernel) ⟨Nat.le_of_ble_eq_true rfl, Nat.le_of_ble_eq_true rfl⟩) ⟨fun a U g mk q => by obtain ⟨q0, q1, qP, qK, qD, qhI_, qhB_, qhW_, qhZ⟩ := q; exact ⟨q0, mvz g mk a q1, mvP g mk a qP, mvK g mk a qK, qD, qhI_.mv g mk a, qhB_.mv g mk a, qhW_.mv g mk a, qhZ.mv g mk a⟩, va_recv hZ.2.1 (hZ.P hS) (ci := 8) (q := (RX6, TX6, 4)) (q0 := 0) rfl rfl, fun U hU hW => ⟨rfl, by rw [hU], by rw [hU]; exact hPc, va_K.moved hW.alike hKc, hDc.weaken (fun _ _ _ _ => trivial), hI_.call hS hU hW (fun q h => hFc q h), hB_.call hS hU hW (fun q h => hFc q h), hW_.call hS hU hW (fun q h => hFc q h), (hZ.sub [0] [] rfl rfl).call hS hU hW (fun q h => hFc q h)⟩⟩ rfl rfl hl.1 rfl (lv_room (Nat.le_of_ble_eq_true rfl)) dX3_doLooks_8 ⟨Nat.le_of_ble_eq_true rfl, Nat.le_of_ble_eq_true rfl⟩) hS (fun q _ h => hFc q h) hFc (fun r_10 u tC H1 locs htC hvm hw_11 hB hz1 hk1 hS => ?_)
  obtain ⟨mdc9_12, sz_9_13, fEl9_14⟩ := u
  try dsimp only at hw_11 hB
  obtain ⟨hP1, hK1, hD1⟩ := hB
  rw [htC] at hP1
  have hK1 := va_K.moved hvm.symm hK1
  obtain ⟨hP, hD⟩ := va_join (wr := []) (w1 := [(zo1iri bo mdc9_12 aEl9_4 (nI sz_9_13)), (zaR aEl9_4 cEl9_5 10 fEl9_14)]) hP hD [0, 1] [] rfl rfl (by decide) (by decide) hk1 hFc hP1 hD1
  have hK := (hK.sub (tys' := []) [] rfl).app hK1
  generalize H1 = H at hP hS ⊢
  have hP : va_P (dC, dI) vwCl [(zo1iri bo mdc9_12 aEl9_4 (nI sz_9_13)), (zaR aEl9_4 cEl9_5 10 fEl9_14)] H := hP
  have hD : va_D A [(zo1iri bo mdc9_12 aEl9_4 (nI sz_9_13)), (zaR aEl9_4 cEl9_5 10 fEl9_14)] := hD
  have hK : va_K (dC, dI) vwCl [(cEl9_5, .object "java/lang/Object")] s := hK
  obtain ⟨er_15, e_16, hL_17⟩ := hw_11
  obtain rfl := (e_16).symm
  subst er_15
  refine lv_iconst (v := 2) hx hb dX3_doLooks_11 (by decide) ?_
  refine lv_imul hx hb dX3_doLooks_12 ?_
  rw [hQ]
  have hP9 := hP.sub (ws' := [(zo1iri bo mdc9_12 aEl9_4 (nI (1 + 3))), (zaR aEl9_4 cEl9_5 10 fEl9_14)]) [0, 1] rfl
  have hD9 := hD.sub (ws' := [(zo1iri bo mdc9_12 aEl9_4 (nI (1 + 3))), (zaR aEl9_4 cEl9_5 10 fEl9_14)]) [0, 1] (by decide) rfl
  have hK9 := hK.sub (tys' := [(cEl9_5, .object "java/lang/Object")]) [0] rfl
  refine W.widen (k := 1) (n := 10) (by omega) (by omega) ?_
  exact W.iret (v := (-((x + nI i0) - sv)) * 2) hx hb hr (fun tQ htQ hWQ => ⟨⟨((-((x + nI i0) - sv)) * 2), (mdc9_12, aEl9_4, cEl9_5, (1 + 3), fEl9_14), rfl, ⟨rfl, by omega, hL_17⟩, by rw [htQ]; exact hP9, va_K.moved hWQ.alike hK9, hD9⟩, hS.F htQ⟩) hS.2.2 dX3_doLooks_13

theorem kc_X3_doSees_X1_1_0 : (.fieldLink RX3 15 "MistHeaps$Heap" "number" "I" : Cond) ∈ wsX3_doSees := kc_of 231 rfl rfl rfl
theorem kc_X3_doSees_X1_1_1 : ∀ w ∈ wsX10, w ∈ wsX3_doSees := fun w h => List.mem_cons_of_mem _ (gin_wsX10 w h)
set_option maxHeartbeats 4000000 in
set_option maxRecDepth 100000 in
theorem c_X3_doSees_X1_1 (l : Launch) (dC : Nat → ClassId) (dI : Nat → Nat → Nat) (ad : Nat → Nat) (cB bS : Nat)    (bo : Nat) (aEl : Nat) (i0 : Nat) (sk : Int32) (sv : Int32) (scl : Int32) (x : Int32) (cEl : ClassId) (fEl : Nat → Option Nat) (a0 : Nat) (sz_ : Nat) (mdc : Int32) (tl : List Nat) (sz : Nat) (hsz : sz_ + 1 ≤ 10) (zL : okL ad fEl sz_ tl) : Met l yX3_doSees wsX3_doSees ({ frames := 3, cells := 0, slots := 0, locals := 65 } : Room) (va_Pc [.ref a0, .int x, .ref bo] (fun U => U.heap.size = sz ∧ va_P (dC, dI) vwCl [(zo1iri bo mdc aEl (nI sz_)), (zaR aEl cEl 10 fEl)] U.heap ∧ va_K (dC, dI) vwCl [(cEl, .object "java/lang/Object")] U ∧ va_D (fun _ => True) [(zo1iri bo mdc aEl (nI sz_)), (zaR aEl cEl 10 fEl)] ∧ Gi ad cB bS (va_A [(zo1iri bo mdc aEl (nI sz_)), (zaR aEl cEl 10 fEl)] sz) U ∧ Gb (va_A [(zo1iri bo mdc aEl (nI sz_)), (zaR aEl cEl 10 fEl)] sz) U ∧ Gw (va_A [(zo1iri bo mdc aEl (nI sz_)), (zaR aEl cEl 10 fEl)] sz) U ∧ Fz dC dI [(zo3iiii a0 sk (nI i0) sv scl)] [] (va_A [(zo1iri bo mdc aEl (nI sz_)), (zaR aEl cEl 10 fEl)] sz) U)) (va_Qi (fun (r : Int32) (u : (Int32) × (Nat) × (Nat → Option Nat)) => match u with | (mdc9, sz_9, fEl9) => r = x + nI i0 ∧ sz_9 = sz_ + 1 ∧ okL ad fEl9 sz_9 (tl ++ [1])) (fun (u : (Int32) × (Nat) × (Nat → Option Nat)) (t : State) => match u with | (mdc9, sz_9, fEl9) => va_P (dC, dI) vwCl [(zo1iri bo mdc9 aEl (nI sz_9)), (zaR aEl cEl 10 fEl9)] t.heap ∧ va_K (dC, dI) vwCl [(cEl, .object "java/lang/Object")] t ∧ va_D (va_A [(zo1iri bo mdc aEl (nI sz_)), (zaR aEl cEl 10 fEl)] sz) [(zo1iri bo mdc9 aEl (nI sz_9)), (zaR aEl cEl 10 fEl9)]) (va_A [(zo1iri bo mdc aEl (nI sz_)), (zaR aEl cEl 10 fEl)] sz)) 0 0 (va_A [(zo1iri bo mdc aEl (nI sz_)), (zaR aEl cEl 10 fEl)] sz) := by
  refine met_ofQ (cc := cX3_doSees) (maxL := 3) (ret := (some .int)) (by decide) rfl ?_
  intro p e s m args below meth c s₁ Q B hml hv hQ
  obtain ⟨rfl, hsz, hP, hK, hD0, hI_, hB_, hW_, hZ⟩ := hv
  have hx := B.exec
  have hb := B.bytes
  have hr := B.returns
  have hts := atoms_spec (ws := wsX3_doSees) B.pre
  have hown : s.vm.findClass RX3 = some m.cls := findClass_of_methodNamed B.named
  have hlocks := B.notSynchronized
  subst hsz
  have hD := hD0.self (sz := s.heap.size)
  generalize hAe : va_A [(zo1iri bo mdc aEl (nI sz_)), (zaR aEl cEl 10 fEl)] s.heap.size = A at hD hQ hI_ hB_ hW_ hZ ⊢
  have hA : ∀ q : Nat, s.heap.size ≤ q → A q := fun q h => by rw [← hAe]; exact Or.inr h
  have hS : va_S A s.heap s.heap [] := va_S.rf
  have hl := lv_entry [.ref a0, .int x, .ref bo] (n := 3) (Nat.le_of_ble_eq_true rfl)
  rw [lg_entry_eq]
  generalize (lg_sl [.ref a0, .int x, .ref bo] ++ List.replicate (3 - (lg_sl [.ref a0, .int x, .ref bo]).length) Slot.unset).toArray = ls at hl ⊢
  generalize hag : ([.ref a0, .int x, .ref bo] : List Value).toArray = args at hts hQ ⊢
  have hl : lv_has ls 3 [(0, .ref a0), (1, .int x), (2, .ref bo)] := hl
  obtain ⟨H, hH⟩ : ∃ H : Heap, H = s.heap := ⟨_, rfl⟩
  rw [← hH] at hP
  rw [← hH]
  have hS : va_S A s.heap H [] := by rw [hH]; exact hS
  obtain ⟨locs, hlo⟩ : ∃ L : List Loc, L = [] := ⟨_, rfl⟩
  rw [← hlo] at hS
  rw [← hlo]
  clear hH hlo
  refine lv_iconst (v := 1) hx hb dX3_doSees_0 (by decide) ?_
  refine lv_aload_n hx hb dX3_doSees_1 rfl (lv_at hl 2 rfl) ?_
  have hPc := hP.sub (ws' := [(zo1iri bo mdc aEl (nI sz_)), (zaR aEl cEl 10 fEl)]) [0, 1] rfl
  have hDc := hD.sub (ws' := [(zo1iri bo mdc aEl (nI sz_)), (zaR aEl cEl 10 fEl)]) [0, 1] (by decide) rfl
  have hKc := hK.sub (tys' := [(cEl, .object "java/lang/Object")]) [0] rfl
  have hFc := va_free (wc := [(zo1iri bo mdc aEl (nI sz_)), (zaR aEl cEl 10 fEl)]) hD hS hA [0, 1] rfl
  refine va_callv (va_runS (As := [.int 1, .ref bo]) (rest := []) ⟨hx, hb, hml, hown, hts⟩ (c_begin1 l dC dI ad cB bS bo aEl 1 cEl fEl sz_ mdc tl H.size (by omega) (by omega) (zL)) (va_cwS 2 hts gX3_doSees_X3_begin rfl rfl rfl hd_yX3_begin.2 ⟨Nat.le_of_ble_eq_true rfl, Nat.le_of_ble_eq_true rfl⟩) ⟨fun a U g mk q => by obtain ⟨q0, q1, qP, qK, qD, qhI_⟩ := q; exact ⟨q0, mvz g mk a q1, mvP g mk a qP, mvK g mk a qK, qD, qhI_.mv g mk a⟩, fun U hU hW => ⟨rfl, by rw [hU], by rw [hU]; exact hPc, va_K.moved hW.alike hKc, hDc.weaken (fun _ _ _ _ => trivial), hI_.call hS hU hW (fun q h => hFc q h)⟩⟩ rfl rfl hl.1 rfl (lv_room (Nat.le_of_ble_eq_true rfl)) dX3_doSees_2 ⟨Nat.le_of_ble_eq_true rfl, Nat.le_of_ble_eq_true rfl⟩) hS (fun q _ h => hFc q h) hFc (fun u tC H1 locs htC hvm hw_2 hB hz1 hk1 hS => ?_)
  obtain ⟨mdc9_3, sz_9_4, fEl9_5⟩ := u
  try dsimp only at hw_2 hB
  obtain ⟨hP1, hK1, hD1⟩ := hB
  rw [htC] at hP1
  have hK1 := va_K.moved hvm.symm hK1
  obtain ⟨hP, hD⟩ := va_join (wr := []) (w1 := [(zo1iri bo mdc9_3 aEl (nI sz_9_4)), (zaR aEl cEl 10 fEl9_5)]) hP hD [0, 1] [] rfl rfl (by decide) (by decide) hk1 hFc hP1 hD1
  have hK := (hK.sub (tys' := []) [] rfl).app hK1
  generalize H1 = H at hP hS ⊢
  have hP : va_P (dC, dI) vwCl [(zo1iri bo mdc9_3 aEl (nI sz_9_4)), (zaR aEl cEl 10 fEl9_5)] H := hP
  have hD : va_D A [(zo1iri bo mdc9_3 aEl (nI sz_9_4)), (zaR aEl cEl 10 fEl9_5)] := hD
  have hK : va_K (dC, dI) vwCl [(cEl, .object "java/lang/Object")] s := hK
  obtain ⟨e_6, hL_7⟩ := hw_2
  obtain rfl := (e_6).symm
  refine lv_iload_n hx hb dX3_doSees_5 rfl (lv_at hl 1 rfl) ?_
  refine lv_aload_n hx hb dX3_doSees_6 rfl (lv_at hl 0 rfl) ?_
  refine va_get (D := (dC, dI)) (ci := 3) (v := .int (nI i0)) (C := RX1) (T := TX1) (N := 4) hx hb hts kc_X3_doSees_X1_1_1 hown hZ.2.1 (hZ.P hS) 0 rfl rfl 1 (by decide) (hts (.fieldLink RX3 15 "MistHeaps$Heap" "number" "I") kc_X3_doSees_X1_1_0) (fun _ h9 => h9) rfl dX3_doSees_7 ?_
  refine lv_iadd hx hb dX3_doSees_10 ?_
  rw [hQ]
  have hP9 := hP.sub (ws' := [(zo1iri bo mdc9_3 aEl (nI (sz_ + 1))), (zaR aEl cEl 10 fEl9_5)]) [0, 1] rfl
  have hD9 := hD.sub (ws' := [(zo1iri bo mdc9_3 aEl (nI (sz_ + 1))), (zaR aEl cEl 10 fEl9_5)]) [0, 1] (by decide) rfl
  have hK9 := hK.sub (tys' := [(cEl, .object "java/lang/Object")]) [0] rfl
  exact W.iret (v := x + (nI i0)) hx hb hr (fun tQ htQ hWQ => ⟨⟨(x + (nI i0)), (mdc9_3, (sz_ + 1), fEl9_5), rfl, ⟨rfl, by omega, by have h9 := hL_7; exact h9⟩, by rw [htQ]; exact hP9, va_K.moved hWQ.alike hK9, hD9⟩, hS.F htQ⟩) hS.2.2 dX3_doSees_11

theorem kc_X3_doSees_X1_0_0 : (.fieldLink RX3 15 "MistHeaps$Heap" "number" "I" : Cond) ∈ wsX3_doSees := kc_of 231 rfl rfl rfl
theorem kc_X3_doSees_X1_0_1 : ∀ w ∈ wsX10, w ∈ wsX3_doSees := fun w h => List.mem_cons_of_mem _ (gin_wsX10 w h)
set_option maxHeartbeats 4000000 in
set_option maxRecDepth 100000 in
theorem c_X3_doSees_X1_0 (l : Launch) (dC : Nat → ClassId) (dI : Nat → Nat → Nat) (ad : Nat → Nat) (cB bS : Nat)    (bo : Nat) (i0 : Nat) (sk : Int32) (sv : Int32) (scl : Int32) (x : Int32) (a0 : Nat) (mdc : Int32) (sz : Nat) : Met l yX3_doSees wsX3_doSees ({ frames := 6, cells := 1, slots := 10, locals := 122 } : Room) (va_Pc [.ref a0, .int x, .ref bo] (fun U => U.heap.size = sz ∧ va_P (dC, dI) vwCl [(zo1iri bo mdc bS 0)] U.heap ∧ va_K (dC, dI) vwCl [] U ∧ va_D (fun _ => True) [(zo1iri bo mdc bS 0)] ∧ Gi ad cB bS (va_A [(zo1iri bo mdc bS 0)] sz) U ∧ Gb (va_A [(zo1iri bo mdc bS 0)] sz) U ∧ Gw (va_A [(zo1iri bo mdc bS 0)] sz) U ∧ Fz dC dI [(zo3iiii a0 sk (nI i0) sv scl)] [] (va_A [(zo1iri bo mdc bS 0)] sz) U)) (va_Qi (fun (r : Int32) (u : (Int32) × (Nat) × (ClassId) × (Nat) × (Nat → Option Nat)) => match u with | (mdc9, aEl9, cEl9, sz_9, fEl9) => r = x + nI i0 ∧ sz_9 = 1 ∧ okL ad fEl9 sz_9 [1]) (fun (u : (Int32) × (Nat) × (ClassId) × (Nat) × (Nat → Option Nat)) (t : State) => match u with | (mdc9, aEl9, cEl9, sz_9, fEl9) => va_P (dC, dI) vwCl [(zo1iri bo mdc9 aEl9 (nI sz_9)), (zaR aEl9 cEl9 10 fEl9)] t.heap ∧ va_K (dC, dI) vwCl [(cEl9, .object "java/lang/Object")] t ∧ va_D (va_A [(zo1iri bo mdc bS 0)] sz) [(zo1iri bo mdc9 aEl9 (nI sz_9)), (zaR aEl9 cEl9 10 fEl9)]) (va_A [(zo1iri bo mdc bS 0)] sz)) 1 10 (va_A [(zo1iri bo mdc bS 0)] sz) := by
  refine met_ofQ (cc := cX3_doSees) (maxL := 3) (ret := (some .int)) (by decide) rfl ?_
  intro p e s m args below meth c s₁ Q B hml hv hQ
  obtain ⟨rfl, hsz, hP, hK, hD0, hI_, hB_, hW_, hZ⟩ := hv
  have hx := B.exec
  have hb := B.bytes
  have hr := B.returns
  have hts := atoms_spec (ws := wsX3_doSees) B.pre
  have hown : s.vm.findClass RX3 = some m.cls := findClass_of_methodNamed B.named
  have hlocks := B.notSynchronized
  subst hsz
  have hD := hD0.self (sz := s.heap.size)
  generalize hAe : va_A [(zo1iri bo mdc bS 0)] s.heap.size = A at hD hQ hI_ hB_ hW_ hZ ⊢
  have hA : ∀ q : Nat, s.heap.size ≤ q → A q := fun q h => by rw [← hAe]; exact Or.inr h
  have hS : va_S A s.heap s.heap [] := va_S.rf
  have hl := lv_entry [.ref a0, .int x, .ref bo] (n := 3) (Nat.le_of_ble_eq_true rfl)
  rw [lg_entry_eq]
  generalize (lg_sl [.ref a0, .int x, .ref bo] ++ List.replicate (3 - (lg_sl [.ref a0, .int x, .ref bo]).length) Slot.unset).toArray = ls at hl ⊢
  generalize hag : ([.ref a0, .int x, .ref bo] : List Value).toArray = args at hts hQ ⊢
  have hl : lv_has ls 3 [(0, .ref a0), (1, .int x), (2, .ref bo)] := hl
  obtain ⟨H, hH⟩ : ∃ H : Heap, H = s.heap := ⟨_, rfl⟩
  rw [← hH] at hP
  rw [← hH]
  have hS : va_S A s.heap H [] := by rw [hH]; exact hS
  obtain ⟨locs, hlo⟩ : ∃ L : List Loc, L = [] := ⟨_, rfl⟩
  rw [← hlo] at hS
  rw [← hlo]
  clear hH hlo
  refine lv_iconst (v := 1) hx hb dX3_doSees_0 (by decide) ?_
  refine lv_aload_n hx hb dX3_doSees_1 rfl (lv_at hl 2 rfl) ?_
  have hPc := hP.sub (ws' := [(zo1iri bo mdc bS 0)]) [0] rfl
  have hDc := hD.sub (ws' := [(zo1iri bo mdc bS 0)]) [0] (by decide) rfl
  have hKc := hK.sub (tys' := []) [] rfl
  have hFc := va_free (wc := [(zo1iri bo mdc bS 0)]) hD hS hA [0] rfl
  refine va_callv (va_runS (As := [.int 1, .ref bo]) (rest := []) ⟨hx, hb, hml, hown, hts⟩ (c_begin0 l dC dI ad cB bS bo mdc 1 H.size (by omega)) (va_cwS 2 hts gX3_doSees_X3_begin rfl rfl rfl hd_yX3_begin.2 ⟨Nat.le_of_ble_eq_true rfl, Nat.le_of_ble_eq_true rfl⟩) ⟨fun a U g mk q => by obtain ⟨q0, q1, qP, qK, qD, qhI_⟩ := q; exact ⟨q0, mvz g mk a q1, mvP g mk a qP, mvK g mk a qK, qD, qhI_.mv g mk a⟩, fun U hU hW => ⟨rfl, by rw [hU], by rw [hU]; exact hPc, va_K.moved hW.alike hKc, hDc.weaken (fun _ _ _ _ => trivial), hI_.call hS hU hW (fun q h => hFc q h)⟩⟩ rfl rfl hl.1 rfl (lv_room (Nat.le_of_ble_eq_true rfl)) dX3_doSees_2 ⟨Nat.le_of_ble_eq_true rfl, Nat.le_of_ble_eq_true rfl⟩) hS (fun q _ h => hFc q h) hFc (fun u tC H1 locs htC hvm hw_2 hB hz1 hk1 hS => ?_)
  obtain ⟨mdc9_3, aEl9_4, cEl9_5, sz_9_6, fEl9_7⟩ := u
  try dsimp only at hw_2 hB
  obtain ⟨hP1, hK1, hD1⟩ := hB
  rw [htC] at hP1
  have hK1 := va_K.moved hvm.symm hK1
  obtain ⟨hP, hD⟩ := va_join (wr := []) (w1 := [(zo1iri bo mdc9_3 aEl9_4 (nI sz_9_6)), (zaR aEl9_4 cEl9_5 10 fEl9_7)]) hP hD [0] [] rfl rfl (by decide) (by decide) hk1 hFc hP1 hD1
  have hK := (hK.sub (tys' := []) [] rfl).app hK1
  generalize H1 = H at hP hS ⊢
  have hP : va_P (dC, dI) vwCl [(zo1iri bo mdc9_3 aEl9_4 (nI sz_9_6)), (zaR aEl9_4 cEl9_5 10 fEl9_7)] H := hP
  have hD : va_D A [(zo1iri bo mdc9_3 aEl9_4 (nI sz_9_6)), (zaR aEl9_4 cEl9_5 10 fEl9_7)] := hD
  have hK : va_K (dC, dI) vwCl [(cEl9_5, .object "java/lang/Object")] s := hK
  refine W.widen (k := 1) (n := 10) (by omega) (by omega) ?_
  obtain ⟨e_8, hL_9⟩ := hw_2
  obtain rfl := (e_8).symm
  refine lv_iload_n hx hb dX3_doSees_5 rfl (lv_at hl 1 rfl) ?_
  refine lv_aload_n hx hb dX3_doSees_6 rfl (lv_at hl 0 rfl) ?_
  refine va_get (D := (dC, dI)) (ci := 3) (v := .int (nI i0)) (C := RX1) (T := TX1) (N := 4) hx hb hts kc_X3_doSees_X1_0_1 hown hZ.2.1 (hZ.P hS) 0 rfl rfl 1 (by decide) (hts (.fieldLink RX3 15 "MistHeaps$Heap" "number" "I") kc_X3_doSees_X1_0_0) (fun _ h9 => h9) rfl dX3_doSees_7 ?_
  refine lv_iadd hx hb dX3_doSees_10 ?_
  rw [hQ]
  have hP9 := hP.sub (ws' := [(zo1iri bo mdc9_3 aEl9_4 (nI 1)), (zaR aEl9_4 cEl9_5 10 fEl9_7)]) [0, 1] rfl
  have hD9 := hD.sub (ws' := [(zo1iri bo mdc9_3 aEl9_4 (nI 1)), (zaR aEl9_4 cEl9_5 10 fEl9_7)]) [0, 1] (by decide) rfl
  have hK9 := hK.sub (tys' := [(cEl9_5, .object "java/lang/Object")]) [0] rfl
  refine W.widen (k := 1) (n := 10) (by omega) (by omega) ?_
  exact W.iret (v := x + (nI i0)) hx hb hr (fun tQ htQ hWQ => ⟨⟨(x + (nI i0)), (mdc9_3, aEl9_4, cEl9_5, 1, fEl9_7), rfl, ⟨rfl, by omega, hL_9⟩, by rw [htQ]; exact hP9, va_K.moved hWQ.alike hK9, hD9⟩, hS.F htQ⟩) hS.2.2 dX3_doSees_11

theorem kc_X3_doGoes_X1_1_0 : (.fieldLink RX3 18 "MistHeaps$Heap" "v" "I" : Cond) ∈ wsX3_doGoes := kc_of 236 rfl rfl rfl
theorem kc_X3_doGoes_X1_1_1 : ∀ w ∈ wsX10, w ∈ wsX3_doGoes := fun w h => List.mem_cons_of_mem _ (gin_wsX10 w h)
set_option maxHeartbeats 4000000 in
set_option maxRecDepth 100000 in
theorem c_X3_doGoes_X1_1 (l : Launch) (dC : Nat → ClassId) (dI : Nat → Nat → Nat) (ad : Nat → Nat) (cB bS : Nat)    (bo : Nat) (aEl : Nat) (i0 : Nat) (sk : Int32) (sv : Int32) (scl : Int32) (x : Int32) (cEl : ClassId) (fEl : Nat → Option Nat) (a0 : Nat) (sz_ : Nat) (mdc : Int32) (tl : List Nat) (sz : Nat) (hsz : sz_ + 2 ≤ 10) (zL : okL ad fEl sz_ tl) : Met l yX3_doGoes wsX3_doGoes ({ frames := 4, cells := 0, slots := 0, locals := 87 } : Room) (va_Pc [.ref a0, .int x, .ref bo] (fun U => U.heap.size = sz ∧ va_P (dC, dI) vwCl [(zo1iri bo mdc aEl (nI sz_)), (zaR aEl cEl 10 fEl)] U.heap ∧ va_K (dC, dI) vwCl [(cEl, .object "java/lang/Object")] U ∧ va_D (fun _ => True) [(zo1iri bo mdc aEl (nI sz_)), (zaR aEl cEl 10 fEl)] ∧ Gi ad cB bS (va_A [(zo1iri bo mdc aEl (nI sz_)), (zaR aEl cEl 10 fEl)] sz) U ∧ Gb (va_A [(zo1iri bo mdc aEl (nI sz_)), (zaR aEl cEl 10 fEl)] sz) U ∧ Gw (va_A [(zo1iri bo mdc aEl (nI sz_)), (zaR aEl cEl 10 fEl)] sz) U ∧ Fz dC dI [(zo3iiii a0 sk (nI i0) sv scl)] [] (va_A [(zo1iri bo mdc aEl (nI sz_)), (zaR aEl cEl 10 fEl)] sz) U)) (va_Qi (fun (r : Int32) (u : (Int32) × (Nat) × (Nat → Option Nat)) => match u with | (mdc9, sz_9, fEl9) => r = (x + nI i0) - sv ∧ sz_9 = sz_ + 2 ∧ okL ad fEl9 sz_9 (tl ++ [2, 1])) (fun (u : (Int32) × (Nat) × (Nat → Option Nat)) (t : State) => match u with | (mdc9, sz_9, fEl9) => va_P (dC, dI) vwCl [(zo1iri bo mdc9 aEl (nI sz_9)), (zaR aEl cEl 10 fEl9)] t.heap ∧ va_K (dC, dI) vwCl [(cEl, .object "java/lang/Object")] t ∧ va_D (va_A [(zo1iri bo mdc aEl (nI sz_)), (zaR aEl cEl 10 fEl)] sz) [(zo1iri bo mdc9 aEl (nI sz_9)), (zaR aEl cEl 10 fEl9)]) (va_A [(zo1iri bo mdc aEl (nI sz_)), (zaR aEl cEl 10 fEl)] sz)) 0 0 (va_A [(zo1iri bo mdc aEl (nI sz_)), (zaR aEl cEl 10 fEl)] sz) := by
  refine met_ofQ (cc := cX3_doGoes) (maxL := 3) (ret := (some .int)) (by decide) rfl ?_
  intro p e s m args below meth c s₁ Q B hml hv hQ
  obtain ⟨rfl, hsz, hP, hK, hD0, hI_, hB_, hW_, hZ⟩ := hv
  have hx := B.exec
  have hb := B.bytes
  have hr := B.returns
  have hts := atoms_spec (ws := wsX3_doGoes) B.pre
  have hown : s.vm.findClass RX3 = some m.cls := findClass_of_methodNamed B.named
  have hlocks := B.notSynchronized
  subst hsz
  have hD := hD0.self (sz := s.heap.size)
  generalize hAe : va_A [(zo1iri bo mdc aEl (nI sz_)), (zaR aEl cEl 10 fEl)] s.heap.size = A at hD hQ hI_ hB_ hW_ hZ ⊢
  have hA : ∀ q : Nat, s.heap.size ≤ q → A q := fun q h => by rw [← hAe]; exact Or.inr h
  have hS : va_S A s.heap s.heap [] := va_S.rf
  have hl := lv_entry [.ref a0, .int x, .ref bo] (n := 3) (Nat.le_of_ble_eq_true rfl)
  rw [lg_entry_eq]
  generalize (lg_sl [.ref a0, .int x, .ref bo] ++ List.replicate (3 - (lg_sl [.ref a0, .int x, .ref bo]).length) Slot.unset).toArray = ls at hl ⊢
  generalize hag : ([.ref a0, .int x, .ref bo] : List Value).toArray = args at hts hQ ⊢
  have hl : lv_has ls 3 [(0, .ref a0), (1, .int x), (2, .ref bo)] := hl
  obtain ⟨H, hH⟩ : ∃ H : Heap, H = s.heap := ⟨_, rfl⟩
  rw [← hH] at hP
  rw [← hH]
  have hS : va_S A s.heap H [] := by rw [hH]; exact hS
  obtain ⟨locs, hlo⟩ : ∃ L : List Loc, L = [] := ⟨_, rfl⟩
  rw [← hlo] at hS
  rw [← hlo]
  clear hH hlo
  refine lv_iconst (v := 2) hx hb dX3_doGoes_0 (by decide) ?_
  refine lv_aload_n hx hb dX3_doGoes_1 rfl (lv_at hl 2 rfl) ?_
  have hPc := hP.sub (ws' := [(zo1iri bo mdc aEl (nI sz_)), (zaR aEl cEl 10 fEl)]) [0, 1] rfl
  have hDc := hD.sub (ws' := [(zo1iri bo mdc aEl (nI sz_)), (zaR aEl cEl 10 fEl)]) [0, 1] (by decide) rfl
  have hKc := hK.sub (tys' := [(cEl, .object "java/lang/Object")]) [0] rfl
  have hFc := va_free (wc := [(zo1iri bo mdc aEl (nI sz_)), (zaR aEl cEl 10 fEl)]) hD hS hA [0, 1] rfl
  refine va_callv (va_runS (As := [.int 2, .ref bo]) (rest := []) ⟨hx, hb, hml, hown, hts⟩ (c_begin1 l dC dI ad cB bS bo aEl 2 cEl fEl sz_ mdc tl H.size (by omega) (by omega) (zL)) (va_cwS 2 hts gX3_doGoes_X3_begin rfl rfl rfl hd_yX3_begin.2 ⟨Nat.le_of_ble_eq_true rfl, Nat.le_of_ble_eq_true rfl⟩) ⟨fun a U g mk q => by obtain ⟨q0, q1, qP, qK, qD, qhI_⟩ := q; exact ⟨q0, mvz g mk a q1, mvP g mk a qP, mvK g mk a qK, qD, qhI_.mv g mk a⟩, fun U hU hW => ⟨rfl, by rw [hU], by rw [hU]; exact hPc, va_K.moved hW.alike hKc, hDc.weaken (fun _ _ _ _ => trivial), hI_.call hS hU hW (fun q h => hFc q h)⟩⟩ rfl rfl hl.1 rfl (lv_room (Nat.le_of_ble_eq_true rfl)) dX3_doGoes_2 ⟨Nat.le_of_ble_eq_true rfl, Nat.le_of_ble_eq_true rfl⟩) hS (fun q _ h => hFc q h) hFc (fun u tC H1 locs htC hvm hw_2 hB hz1 hk1 hS => ?_)
  obtain ⟨mdc9_3, sz_9_4, fEl9_5⟩ := u
  try dsimp only at hw_2 hB
  obtain ⟨hP1, hK1, hD1⟩ := hB
  rw [htC] at hP1
  have hK1 := va_K.moved hvm.symm hK1
  obtain ⟨hP, hD⟩ := va_join (wr := []) (w1 := [(zo1iri bo mdc9_3 aEl (nI sz_9_4)), (zaR aEl cEl 10 fEl9_5)]) hP hD [0, 1] [] rfl rfl (by decide) (by decide) hk1 hFc hP1 hD1
  have hK := (hK.sub (tys' := []) [] rfl).app hK1
  generalize H1 = H at hP hS ⊢
  have hP : va_P (dC, dI) vwCl [(zo1iri bo mdc9_3 aEl (nI sz_9_4)), (zaR aEl cEl 10 fEl9_5)] H := hP
  have hD : va_D A [(zo1iri bo mdc9_3 aEl (nI sz_9_4)), (zaR aEl cEl 10 fEl9_5)] := hD
  have hK : va_K (dC, dI) vwCl [(cEl, .object "java/lang/Object")] s := hK
  obtain ⟨e_6, hL_7⟩ := hw_2
  obtain rfl := (e_6).symm
  refine lv_aload_n hx hb dX3_doGoes_5 rfl (lv_at hl 0 rfl) ?_
  refine lv_iload_n hx hb dX3_doGoes_6 rfl (lv_at hl 1 rfl) ?_
  refine lv_aload_n hx hb dX3_doGoes_7 rfl (lv_at hl 2 rfl) ?_
  have hPc := hP.sub (ws' := [(zo1iri bo mdc9_3 aEl (nI (sz_ + 1))), (zaR aEl cEl 10 fEl9_5)]) [0, 1] rfl
  have hDc := hD.sub (ws' := [(zo1iri bo mdc9_3 aEl (nI (sz_ + 1))), (zaR aEl cEl 10 fEl9_5)]) [0, 1] (by decide) rfl
  have hKc := hK.sub (tys' := [(cEl, .object "java/lang/Object")]) [0] rfl
  have hFc := va_free (wc := [(zo1iri bo mdc9_3 aEl (nI (sz_ + 1))), (zaR aEl cEl 10 fEl9_5)]) hD hS hA [0, 1] rfl
  refine va_calli (va_runU (As := [.int x, .ref bo]) (rest := []) ⟨hx, hb, hml, hown, hts⟩ (c_X3_doSees_X1_1 l dC dI ad cB bS    bo aEl i0 sk sv scl x cEl fEl9_5 a0 (sz_ + 1) mdc9_3 (tl ++ [2]) H.size (by omega) (hL_7)) (va_cwU 2 hts gX3_doGoes_X3_doSees_u38X1 rfl rfl rfl rfl (by decide +kernel) ⟨Nat.le_of_ble_eq_true rfl, Nat.le_of_ble_eq_true rfl⟩) ⟨fun a U g mk q => by obtain ⟨q0, q1, qP, qK, qD, qhI_, qhB_, qhW_, qhZ⟩ := q; exact ⟨q0, mvz g mk a q1, mvP g mk a qP, mvK g mk a qK, qD, qhI_.mv g mk a, qhB_.mv g mk a, qhW_.mv g mk a, qhZ.mv g mk a⟩, va_recv hZ.2.1 (hZ.P hS) (ci := 3) (q := (RX1, TX1, 4)) (q0 := 0) rfl rfl, fun U hU hW => ⟨rfl, by rw [hU], by rw [hU]; exact hPc, va_K.moved hW.alike hKc, hDc.weaken (fun _ _ _ _ => trivial), hI_.call hS hU hW (fun q h => hFc q h), hB_.call hS hU hW (fun q h => hFc q h), hW_.call hS hU hW (fun q h => hFc q h), (hZ.sub [0] [] rfl rfl).call hS hU hW (fun q h => hFc q h)⟩⟩ rfl rfl hl.1 rfl (lv_room (Nat.le_of_ble_eq_true rfl)) dX3_doGoes_8 ⟨Nat.le_of_ble_eq_true rfl, Nat.le_of_ble_eq_true rfl⟩) hS (fun q _ h => hFc q h) hFc (fun r_8 u tC H1 locs htC hvm hw_9 hB hz1 hk1 hS => ?_)
  obtain ⟨mdc9_10, sz_9_11, fEl9_12⟩ := u
  try dsimp only at hw_9 hB
  obtain ⟨hP1, hK1, hD1⟩ := hB
  rw [htC] at hP1
  have hK1 := va_K.moved hvm.symm hK1
  obtain ⟨hP, hD⟩ := va_join (wr := []) (w1 := [(zo1iri bo mdc9_10 aEl (nI sz_9_11)), (zaR aEl cEl 10 fEl9_12)]) hP hD [0, 1] [] rfl rfl (by decide) (by decide) hk1 hFc hP1 hD1
  have hK := (hK.sub (tys' := []) [] rfl).app hK1
  generalize H1 = H at hP hS ⊢
  have hP : va_P (dC, dI) vwCl [(zo1iri bo mdc9_10 aEl (nI sz_9_11)), (zaR aEl cEl 10 fEl9_12)] H := hP
  have hD : va_D A [(zo1iri bo mdc9_10 aEl (nI sz_9_11)), (zaR aEl cEl 10 fEl9_12)] := hD
  have hK : va_K (dC, dI) vwCl [(cEl, .object "java/lang/Object")] s := hK
  obtain ⟨er_13, e_14, hL_15⟩ := hw_9
  obtain rfl := (e_14).symm
  subst er_13
  refine lv_aload_n hx hb dX3_doGoes_11 rfl (lv_at hl 0 rfl) ?_
  refine va_get (D := (dC, dI)) (ci := 3) (v := .int sv) (C := RX1) (T := TX1) (N := 4) hx hb hts kc_X3_doGoes_X1_1_1 hown hZ.2.1 (hZ.P hS) 0 rfl rfl 2 (by decide) (hts (.fieldLink RX3 18 "MistHeaps$Heap" "v" "I") kc_X3_doGoes_X1_1_0) (fun _ h9 => h9) rfl dX3_doGoes_12 ?_
  refine lv_isub hx hb dX3_doGoes_15 ?_
  rw [hQ]
  have hP9 := hP.sub (ws' := [(zo1iri bo mdc9_10 aEl (nI ((sz_ + 1) + 1))), (zaR aEl cEl 10 fEl9_12)]) [0, 1] rfl
  have hD9 := hD.sub (ws' := [(zo1iri bo mdc9_10 aEl (nI ((sz_ + 1) + 1))), (zaR aEl cEl 10 fEl9_12)]) [0, 1] (by decide) rfl
  have hK9 := hK.sub (tys' := [(cEl, .object "java/lang/Object")]) [0] rfl
  exact W.iret (v := (x + nI i0) - sv) hx hb hr (fun tQ htQ hWQ => ⟨⟨((x + nI i0) - sv), (mdc9_10, ((sz_ + 1) + 1), fEl9_12), rfl, ⟨rfl, by omega, by have h9 := okL_as (hL_15); exact h9⟩, by rw [htQ]; exact hP9, va_K.moved hWQ.alike hK9, hD9⟩, hS.F htQ⟩) hS.2.2 dX3_doGoes_16

theorem kc_X3_doGoes_X1_0_0 : (.fieldLink RX3 18 "MistHeaps$Heap" "v" "I" : Cond) ∈ wsX3_doGoes := kc_of 236 rfl rfl rfl
theorem kc_X3_doGoes_X1_0_1 : ∀ w ∈ wsX10, w ∈ wsX3_doGoes := fun w h => List.mem_cons_of_mem _ (gin_wsX10 w h)
set_option maxHeartbeats 4000000 in
set_option maxRecDepth 100000 in
theorem c_X3_doGoes_X1_0 (l : Launch) (dC : Nat → ClassId) (dI : Nat → Nat → Nat) (ad : Nat → Nat) (cB bS : Nat)    (bo : Nat) (i0 : Nat) (sk : Int32) (sv : Int32) (scl : Int32) (x : Int32) (a0 : Nat) (mdc : Int32) (sz : Nat) : Met l yX3_doGoes wsX3_doGoes ({ frames := 6, cells := 1, slots := 10, locals := 122 } : Room) (va_Pc [.ref a0, .int x, .ref bo] (fun U => U.heap.size = sz ∧ va_P (dC, dI) vwCl [(zo1iri bo mdc bS 0)] U.heap ∧ va_K (dC, dI) vwCl [] U ∧ va_D (fun _ => True) [(zo1iri bo mdc bS 0)] ∧ Gi ad cB bS (va_A [(zo1iri bo mdc bS 0)] sz) U ∧ Gb (va_A [(zo1iri bo mdc bS 0)] sz) U ∧ Gw (va_A [(zo1iri bo mdc bS 0)] sz) U ∧ Fz dC dI [(zo3iiii a0 sk (nI i0) sv scl)] [] (va_A [(zo1iri bo mdc bS 0)] sz) U)) (va_Qi (fun (r : Int32) (u : (Int32) × (Nat) × (ClassId) × (Nat) × (Nat → Option Nat)) => match u with | (mdc9, aEl9, cEl9, sz_9, fEl9) => r = (x + nI i0) - sv ∧ sz_9 = 2 ∧ okL ad fEl9 sz_9 [2, 1]) (fun (u : (Int32) × (Nat) × (ClassId) × (Nat) × (Nat → Option Nat)) (t : State) => match u with | (mdc9, aEl9, cEl9, sz_9, fEl9) => va_P (dC, dI) vwCl [(zo1iri bo mdc9 aEl9 (nI sz_9)), (zaR aEl9 cEl9 10 fEl9)] t.heap ∧ va_K (dC, dI) vwCl [(cEl9, .object "java/lang/Object")] t ∧ va_D (va_A [(zo1iri bo mdc bS 0)] sz) [(zo1iri bo mdc9 aEl9 (nI sz_9)), (zaR aEl9 cEl9 10 fEl9)]) (va_A [(zo1iri bo mdc bS 0)] sz)) 1 10 (va_A [(zo1iri bo mdc bS 0)] sz) := by
  refine met_ofQ (cc := cX3_doGoes) (maxL := 3) (ret := (some .int)) (by decide) rfl ?_
  intro p e s m args below meth c s₁ Q B hml hv hQ
  obtain ⟨rfl, hsz, hP, hK, hD0, hI_, hB_, hW_, hZ⟩ := hv
  have hx := B.exec
  have hb := B.bytes
  have hr := B.returns
  have hts := atoms_spec (ws := wsX3_doGoes) B.pre
  have hown : s.vm.findClass RX3 = some m.cls := findClass_of_methodNamed B.named
  have hlocks := B.notSynchronized
  subst hsz
  have hD := hD0.self (sz := s.heap.size)
  generalize hAe : va_A [(zo1iri bo mdc bS 0)] s.heap.size = A at hD hQ hI_ hB_ hW_ hZ ⊢
  have hA : ∀ q : Nat, s.heap.size ≤ q → A q := fun q h => by rw [← hAe]; exact Or.inr h
  have hS : va_S A s.heap s.heap [] := va_S.rf
  have hl := lv_entry [.ref a0, .int x, .ref bo] (n := 3) (Nat.le_of_ble_eq_true rfl)
  rw [lg_entry_eq]
  generalize (lg_sl [.ref a0, .int x, .ref bo] ++ List.replicate (3 - (lg_sl [.ref a0, .int x, .ref bo]).length) Slot.unset).toArray = ls at hl ⊢
  generalize hag : ([.ref a0, .int x, .ref bo] : List Value).toArray = args at hts hQ ⊢
  have hl : lv_has ls 3 [(0, .ref a0), (1, .int x), (2, .ref bo)] := hl
  obtain ⟨H, hH⟩ : ∃ H : Heap, H = s.heap := ⟨_, rfl⟩
  rw [← hH] at hP
  rw [← hH]
  have hS : va_S A s.heap H [] := by rw [hH]; exact hS
  obtain ⟨locs, hlo⟩ : ∃ L : List Loc, L = [] := ⟨_, rfl⟩
  rw [← hlo] at hS
  rw [← hlo]
  clear hH hlo
  refine lv_iconst (v := 2) hx hb dX3_doGoes_0 (by decide) ?_
  refine lv_aload_n hx hb dX3_doGoes_1 rfl (lv_at hl 2 rfl) ?_
  have hPc := hP.sub (ws' := [(zo1iri bo mdc bS 0)]) [0] rfl
  have hDc := hD.sub (ws' := [(zo1iri bo mdc bS 0)]) [0] (by decide) rfl
  have hKc := hK.sub (tys' := []) [] rfl
  have hFc := va_free (wc := [(zo1iri bo mdc bS 0)]) hD hS hA [0] rfl
  refine va_callv (va_runS (As := [.int 2, .ref bo]) (rest := []) ⟨hx, hb, hml, hown, hts⟩ (c_begin0 l dC dI ad cB bS bo mdc 2 H.size (by omega)) (va_cwS 2 hts gX3_doGoes_X3_begin rfl rfl rfl hd_yX3_begin.2 ⟨Nat.le_of_ble_eq_true rfl, Nat.le_of_ble_eq_true rfl⟩) ⟨fun a U g mk q => by obtain ⟨q0, q1, qP, qK, qD, qhI_⟩ := q; exact ⟨q0, mvz g mk a q1, mvP g mk a qP, mvK g mk a qK, qD, qhI_.mv g mk a⟩, fun U hU hW => ⟨rfl, by rw [hU], by rw [hU]; exact hPc, va_K.moved hW.alike hKc, hDc.weaken (fun _ _ _ _ => trivial), hI_.call hS hU hW (fun q h => hFc q h)⟩⟩ rfl rfl hl.1 rfl (lv_room (Nat.le_of_ble_eq_true rfl)) dX3_doGoes_2 ⟨Nat.le_of_ble_eq_true rfl, Nat.le_of_ble_eq_true rfl⟩) hS (fun q _ h => hFc q h) hFc (fun u tC H1 locs htC hvm hw_2 hB hz1 hk1 hS => ?_)
  obtain ⟨mdc9_3, aEl9_4, cEl9_5, sz_9_6, fEl9_7⟩ := u
  try dsimp only at hw_2 hB
  obtain ⟨hP1, hK1, hD1⟩ := hB
  rw [htC] at hP1
  have hK1 := va_K.moved hvm.symm hK1
  obtain ⟨hP, hD⟩ := va_join (wr := []) (w1 := [(zo1iri bo mdc9_3 aEl9_4 (nI sz_9_6)), (zaR aEl9_4 cEl9_5 10 fEl9_7)]) hP hD [0] [] rfl rfl (by decide) (by decide) hk1 hFc hP1 hD1
  have hK := (hK.sub (tys' := []) [] rfl).app hK1
  generalize H1 = H at hP hS ⊢
  have hP : va_P (dC, dI) vwCl [(zo1iri bo mdc9_3 aEl9_4 (nI sz_9_6)), (zaR aEl9_4 cEl9_5 10 fEl9_7)] H := hP
  have hD : va_D A [(zo1iri bo mdc9_3 aEl9_4 (nI sz_9_6)), (zaR aEl9_4 cEl9_5 10 fEl9_7)] := hD
  have hK : va_K (dC, dI) vwCl [(cEl9_5, .object "java/lang/Object")] s := hK
  refine W.widen (k := 1) (n := 10) (by omega) (by omega) ?_
  obtain ⟨e_8, hL_9⟩ := hw_2
  obtain rfl := (e_8).symm
  refine lv_aload_n hx hb dX3_doGoes_5 rfl (lv_at hl 0 rfl) ?_
  refine lv_iload_n hx hb dX3_doGoes_6 rfl (lv_at hl 1 rfl) ?_
  refine lv_aload_n hx hb dX3_doGoes_7 rfl (lv_at hl 2 rfl) ?_
  have hPc := hP.sub (ws' := [(zo1iri bo mdc9_3 aEl9_4 (nI 1)), (zaR aEl9_4 cEl9_5 10 fEl9_7)]) [0, 1] rfl
  have hDc := hD.sub (ws' := [(zo1iri bo mdc9_3 aEl9_4 (nI 1)), (zaR aEl9_4 cEl9_5 10 fEl9_7)]) [0, 1] (by decide) rfl
  have hKc := hK.sub (tys' := [(cEl9_5, .object "java/lang/Object")]) [0] rfl
  have hFc := va_free (wc := [(zo1iri bo mdc9_3 aEl9_4 (nI 1)), (zaR aEl9_4 cEl9_5 10 fEl9_7)]) hD hS hA [0, 1] rfl
  refine va_calli (va_runU (As := [.int x, .ref bo]) (rest := []) ⟨hx, hb, hml, hown, hts⟩ (c_X3_doSees_X1_1 l dC dI ad cB bS    bo aEl9_4 i0 sk sv scl x cEl9_5 fEl9_7 a0 1 mdc9_3 ([2]) H.size (by omega) (hL_9)) (va_cwU 2 hts gX3_doGoes_X3_doSees_u38X1 rfl rfl rfl rfl (by decide +kernel) ⟨Nat.le_of_ble_eq_true rfl, Nat.le_of_ble_eq_true rfl⟩) ⟨fun a U g mk q => by obtain ⟨q0, q1, qP, qK, qD, qhI_, qhB_, qhW_, qhZ⟩ := q; exact ⟨q0, mvz g mk a q1, mvP g mk a qP, mvK g mk a qK, qD, qhI_.mv g mk a, qhB_.mv g mk a, qhW_.mv g mk a, qhZ.mv g mk a⟩, va_recv hZ.2.1 (hZ.P hS) (ci := 3) (q := (RX1, TX1, 4)) (q0 := 0) rfl rfl, fun U hU hW => ⟨rfl, by rw [hU], by rw [hU]; exact hPc, va_K.moved hW.alike hKc, hDc.weaken (fun _ _ _ _ => trivial), hI_.call hS hU hW (fun q h => hFc q h), hB_.call hS hU hW (fun q h => hFc q h), hW_.call hS hU hW (fun q h => hFc q h), (hZ.sub [0] [] rfl rfl).call hS hU hW (fun q h => hFc q h)⟩⟩ rfl rfl hl.1 rfl (lv_room (Nat.le_of_ble_eq_true rfl)) dX3_doGoes_8 ⟨Nat.le_of_ble_eq_true rfl, Nat.le_of_ble_eq_true rfl⟩) hS (fun q _ h => hFc q h) hFc (fun r_10 u tC H1 locs htC hvm hw_11 hB hz1 hk1 hS => ?_)
  obtain ⟨mdc9_12, sz_9_13, fEl9_14⟩ := u
  try dsimp only at hw_11 hB
  obtain ⟨hP1, hK1, hD1⟩ := hB
  rw [htC] at hP1
  have hK1 := va_K.moved hvm.symm hK1
  obtain ⟨hP, hD⟩ := va_join (wr := []) (w1 := [(zo1iri bo mdc9_12 aEl9_4 (nI sz_9_13)), (zaR aEl9_4 cEl9_5 10 fEl9_14)]) hP hD [0, 1] [] rfl rfl (by decide) (by decide) hk1 hFc hP1 hD1
  have hK := (hK.sub (tys' := []) [] rfl).app hK1
  generalize H1 = H at hP hS ⊢
  have hP : va_P (dC, dI) vwCl [(zo1iri bo mdc9_12 aEl9_4 (nI sz_9_13)), (zaR aEl9_4 cEl9_5 10 fEl9_14)] H := hP
  have hD : va_D A [(zo1iri bo mdc9_12 aEl9_4 (nI sz_9_13)), (zaR aEl9_4 cEl9_5 10 fEl9_14)] := hD
  have hK : va_K (dC, dI) vwCl [(cEl9_5, .object "java/lang/Object")] s := hK
  obtain ⟨er_15, e_16, hL_17⟩ := hw_11
  obtain rfl := (e_16).symm
  subst er_15
  refine lv_aload_n hx hb dX3_doGoes_11 rfl (lv_at hl 0 rfl) ?_
  refine va_get (D := (dC, dI)) (ci := 3) (v := .int sv) (C := RX1) (T := TX1) (N := 4) hx hb hts kc_X3_doGoes_X1_0_1 hown hZ.2.1 (hZ.P hS) 0 rfl rfl 2 (by decide) (hts (.fieldLink RX3 18 "MistHeaps$Heap" "v" "I") kc_X3_doGoes_X1_0_0) (fun _ h9 => h9) rfl dX3_doGoes_12 ?_
  refine lv_isub hx hb dX3_doGoes_15 ?_
  rw [hQ]
  have hP9 := hP.sub (ws' := [(zo1iri bo mdc9_12 aEl9_4 (nI (1 + 1))), (zaR aEl9_4 cEl9_5 10 fEl9_14)]) [0, 1] rfl
  have hD9 := hD.sub (ws' := [(zo1iri bo mdc9_12 aEl9_4 (nI (1 + 1))), (zaR aEl9_4 cEl9_5 10 fEl9_14)]) [0, 1] (by decide) rfl
  have hK9 := hK.sub (tys' := [(cEl9_5, .object "java/lang/Object")]) [0] rfl
  refine W.widen (k := 1) (n := 10) (by omega) (by omega) ?_
  exact W.iret (v := (x + nI i0) - sv) hx hb hr (fun tQ htQ hWQ => ⟨⟨((x + nI i0) - sv), (mdc9_12, aEl9_4, cEl9_5, (1 + 1), fEl9_14), rfl, ⟨rfl, by omega, hL_17⟩, by rw [htQ]; exact hP9, va_K.moved hWQ.alike hK9, hD9⟩, hS.F htQ⟩) hS.2.2 dX3_doGoes_16

set_option maxHeartbeats 4000000 in
set_option maxRecDepth 100000 in
theorem c_X3_doLooks_X1_1 (l : Launch) (dC : Nat → ClassId) (dI : Nat → Nat → Nat) (ad : Nat → Nat) (cB bS : Nat)    (bo : Nat) (aEl : Nat) (i0 : Nat) (sk : Int32) (sv : Int32) (scl : Int32) (x : Int32) (cEl : ClassId) (fEl : Nat → Option Nat) (a0 : Nat) (sz_ : Nat) (mdc : Int32) (tl : List Nat) (sz : Nat) (hsz : sz_ + 3 ≤ 10) (zL : okL ad fEl sz_ tl) : Met l yX3_doLooks wsX3_doLooks ({ frames := 5, cells := 0, slots := 0, locals := 109 } : Room) (va_Pc [.ref a0, .int x, .ref bo] (fun U => U.heap.size = sz ∧ va_P (dC, dI) vwCl [(zo1iri bo mdc aEl (nI sz_)), (zaR aEl cEl 10 fEl)] U.heap ∧ va_K (dC, dI) vwCl [(cEl, .object "java/lang/Object")] U ∧ va_D (fun _ => True) [(zo1iri bo mdc aEl (nI sz_)), (zaR aEl cEl 10 fEl)] ∧ Gi ad cB bS (va_A [(zo1iri bo mdc aEl (nI sz_)), (zaR aEl cEl 10 fEl)] sz) U ∧ Gb (va_A [(zo1iri bo mdc aEl (nI sz_)), (zaR aEl cEl 10 fEl)] sz) U ∧ Gw (va_A [(zo1iri bo mdc aEl (nI sz_)), (zaR aEl cEl 10 fEl)] sz) U ∧ Fz dC dI [(zo3iiii a0 sk (nI i0) sv scl)] [] (va_A [(zo1iri bo mdc aEl (nI sz_)), (zaR aEl cEl 10 fEl)] sz) U)) (va_Qi (fun (r : Int32) (u : (Int32) × (Nat) × (Nat → Option Nat)) => match u with | (mdc9, sz_9, fEl9) => r = ((x + nI i0) - sv) * 2 ∧ sz_9 = sz_ + 3 ∧ okL ad fEl9 sz_9 (tl ++ [3, 2, 1])) (fun (u : (Int32) × (Nat) × (Nat → Option Nat)) (t : State) => match u with | (mdc9, sz_9, fEl9) => va_P (dC, dI) vwCl [(zo1iri bo mdc9 aEl (nI sz_9)), (zaR aEl cEl 10 fEl9)] t.heap ∧ va_K (dC, dI) vwCl [(cEl, .object "java/lang/Object")] t ∧ va_D (va_A [(zo1iri bo mdc aEl (nI sz_)), (zaR aEl cEl 10 fEl)] sz) [(zo1iri bo mdc9 aEl (nI sz_9)), (zaR aEl cEl 10 fEl9)]) (va_A [(zo1iri bo mdc aEl (nI sz_)), (zaR aEl cEl 10 fEl)] sz)) 0 0 (va_A [(zo1iri bo mdc aEl (nI sz_)), (zaR aEl cEl 10 fEl)] sz) := by
  refine met_ofQ (cc := cX3_doLooks) (maxL := 3) (ret := (some .int)) (by decide) rfl ?_
  intro p e s m args below meth c s₁ Q B hml hv hQ
  obtain ⟨rfl, hsz, hP, hK, hD0, hI_, hB_, hW_, hZ⟩ := hv
  have hx := B.exec
  have hb := B.bytes
  have hr := B.returns
  have hts := atoms_spec (ws := wsX3_doLooks) B.pre
  have hown : s.vm.findClass RX3 = some m.cls := findClass_of_methodNamed B.named
  have hlocks := B.notSynchronized
  subst hsz
  have hD := hD0.self (sz := s.heap.size)
  generalize hAe : va_A [(zo1iri bo mdc aEl (nI sz_)), (zaR aEl cEl 10 fEl)] s.heap.size = A at hD hQ hI_ hB_ hW_ hZ ⊢
  have hA : ∀ q : Nat, s.heap.size ≤ q → A q := fun q h => by rw [← hAe]; exact Or.inr h
  have hS : va_S A s.heap s.heap [] := va_S.rf
  have hl := lv_entry [.ref a0, .int x, .ref bo] (n := 3) (Nat.le_of_ble_eq_true rfl)
  rw [lg_entry_eq]
  generalize (lg_sl [.ref a0, .int x, .ref bo] ++ List.replicate (3 - (lg_sl [.ref a0, .int x, .ref bo]).length) Slot.unset).toArray = ls at hl ⊢
  generalize hag : ([.ref a0, .int x, .ref bo] : List Value).toArray = args at hts hQ ⊢
  have hl : lv_has ls 3 [(0, .ref a0), (1, .int x), (2, .ref bo)] := hl
  obtain ⟨H, hH⟩ : ∃ H : Heap, H = s.heap := ⟨_, rfl⟩
  rw [← hH] at hP
  rw [← hH]
  have hS : va_S A s.heap H [] := by rw [hH]; exact hS
  obtain ⟨locs, hlo⟩ : ∃ L : List Loc, L = [] := ⟨_, rfl⟩
  rw [← hlo] at hS
  rw [← hlo]
  clear hH hlo
  refine lv_iconst (v := 3) hx hb dX3_doLooks_0 (by decide) ?_
  refine lv_aload_n hx hb dX3_doLooks_1 rfl (lv_at hl 2 rfl) ?_
  have hPc := hP.sub (ws' := [(zo1iri bo mdc aEl (nI sz_)), (zaR aEl cEl 10 fEl)]) [0, 1] rfl
  have hDc := hD.sub (ws' := [(zo1iri bo mdc aEl (nI sz_)), (zaR aEl cEl 10 fEl)]) [0, 1] (by decide) rfl
  have hKc := hK.sub (tys' := [(cEl, .object "java/lang/Object")]) [0] rfl
  have hFc := va_free (wc := [(zo1iri bo mdc aEl (nI sz_)), (zaR aEl cEl 10 fEl)]) hD hS hA [0, 1] rfl
  refine va_callv (va_runS (As := [.int 3, .ref bo]) (rest := []) ⟨hx, hb, hml, hown, hts⟩ (c_begin1 l dC dI ad cB bS bo aEl 3 cEl fEl sz_ mdc tl H.size (by omega) (by omega) (zL)) (va_cwS 2 hts gX3_doLooks_X3_begin rfl rfl rfl hd_yX3_begin.2 ⟨Nat.le_of_ble_eq_true rfl, Nat.le_of_ble_eq_true rfl⟩) ⟨fun a U g mk q => by obtain ⟨q0, q1, qP, qK, qD, qhI_⟩ := q; exact ⟨q0, mvz g mk a q1, mvP g mk a qP, mvK g mk a qK, qD, qhI_.mv g mk a⟩, fun U hU hW => ⟨rfl, by rw [hU], by rw [hU]; exact hPc, va_K.moved hW.alike hKc, hDc.weaken (fun _ _ _ _ => trivial), hI_.call hS hU hW (fun q h => hFc q h)⟩⟩ rfl rfl hl.1 rfl (lv_room (Nat.le_of_ble_eq_true rfl)) dX3_doLooks_2 ⟨Nat.le_of_ble_eq_true rfl, Nat.le_of_ble_eq_true rfl⟩) hS (fun q _ h => hFc q h) hFc (fun u tC H1 locs htC hvm hw_2 hB hz1 hk1 hS => ?_)
  obtain ⟨mdc9_3, sz_9_4, fEl9_5⟩ := u
  try dsimp only at hw_2 hB
  obtain ⟨hP1, hK1, hD1⟩ := hB
  rw [htC] at hP1
  have hK1 := va_K.moved hvm.symm hK1
  obtain ⟨hP, hD⟩ := va_join (wr := []) (w1 := [(zo1iri bo mdc9_3 aEl (nI sz_9_4)), (zaR aEl cEl 10 fEl9_5)]) hP hD [0, 1] [] rfl rfl (by decide) (by decide) hk1 hFc hP1 hD1
  have hK := (hK.sub (tys' := []) [] rfl).app hK1
  generalize H1 = H at hP hS ⊢
  have hP : va_P (dC, dI) vwCl [(zo1iri bo mdc9_3 aEl (nI sz_9_4)), (zaR aEl cEl 10 fEl9_5)] H := hP
  have hD : va_D A [(zo1iri bo mdc9_3 aEl (nI sz_9_4)), (zaR aEl cEl 10 fEl9_5)] := hD
  have hK : va_K (dC, dI) vwCl [(cEl, .object "java/lang/Object")] s := hK
  obtain ⟨e_6, hL_7⟩ := hw_2
  obtain rfl := (e_6).symm
  refine lv_aload_n hx hb dX3_doLooks_5 rfl (lv_at hl 0 rfl) ?_
  refine lv_iload_n hx hb dX3_doLooks_6 rfl (lv_at hl 1 rfl) ?_
  refine lv_aload_n hx hb dX3_doLooks_7 rfl (lv_at hl 2 rfl) ?_
  have hPc := hP.sub (ws' := [(zo1iri bo mdc9_3 aEl (nI (sz_ + 1))), (zaR aEl cEl 10 fEl9_5)]) [0, 1] rfl
  have hDc := hD.sub (ws' := [(zo1iri bo mdc9_3 aEl (nI (sz_ + 1))), (zaR aEl cEl 10 fEl9_5)]) [0, 1] (by decide) rfl
  have hKc := hK.sub (tys' := [(cEl, .object "java/lang/Object")]) [0] rfl
  have hFc := va_free (wc := [(zo1iri bo mdc9_3 aEl (nI (sz_ + 1))), (zaR aEl cEl 10 fEl9_5)]) hD hS hA [0, 1] rfl
  refine va_calli (va_runU (As := [.int x, .ref bo]) (rest := []) ⟨hx, hb, hml, hown, hts⟩ (c_X3_doGoes_X1_1 l dC dI ad cB bS    bo aEl i0 sk sv scl x cEl fEl9_5 a0 (sz_ + 1) mdc9_3 (tl ++ [3]) H.size (by omega) (hL_7)) (va_cwU 2 hts gX3_doLooks_X3_doGoes_u42X1 rfl rfl rfl rfl (by decide +kernel) ⟨Nat.le_of_ble_eq_true rfl, Nat.le_of_ble_eq_true rfl⟩) ⟨fun a U g mk q => by obtain ⟨q0, q1, qP, qK, qD, qhI_, qhB_, qhW_, qhZ⟩ := q; exact ⟨q0, mvz g mk a q1, mvP g mk a qP, mvK g mk a qK, qD, qhI_.mv g mk a, qhB_.mv g mk a, qhW_.mv g mk a, qhZ.mv g mk a⟩, va_recv hZ.2.1 (hZ.P hS) (ci := 3) (q := (RX1, TX1, 4)) (q0 := 0) rfl rfl, fun U hU hW => ⟨rfl, by rw [hU], by rw [hU]; exact hPc, va_K.moved hW.alike hKc, hDc.weaken (fun _ _ _ _ => trivial), hI_.call hS hU hW (fun q h => hFc q h), hB_.call hS hU hW (fun q h => hFc q h), hW_.call hS hU hW (fun q h => hFc q h), (hZ.sub [0] [] rfl rfl).call hS hU hW (fun q h => hFc q h)⟩⟩ rfl rfl hl.1 rfl (lv_room (Nat.le_of_ble_eq_true rfl)) dX3_doLooks_8 ⟨Nat.le_of_ble_eq_true rfl, Nat.le_of_ble_eq_true rfl⟩) hS (fun q _ h => hFc q h) hFc (fun r_8 u tC H1 locs htC hvm hw_9 hB hz1 hk1 hS => ?_)
  obtain ⟨mdc9_10, sz_9_11, fEl9_12⟩ := u
  try dsimp only at hw_9 hB
  obtain ⟨hP1, hK1, hD1⟩ := hB
  rw [htC] at hP1
  have hK1 := va_K.moved hvm.symm hK1
  obtain ⟨hP, hD⟩ := va_join (wr := []) (w1 := [(zo1iri bo mdc9_10 aEl (nI sz_9_11)), (zaR aEl cEl 10 fEl9_12)]) hP hD [0, 1] [] rfl rfl (by decide) (by decide) hk1 hFc hP1 hD1
  have hK := (hK.sub (tys' := []) [] rfl).app hK1
  generalize H1 = H at hP hS ⊢
  have hP : va_P (dC, dI) vwCl [(zo1iri bo mdc9_10 aEl (nI sz_9_11)), (zaR aEl cEl 10 fEl9_12)] H := hP
  have hD : va_D A [(zo1iri bo mdc9_10 aEl (nI sz_9_11)), (zaR aEl cEl 10 fEl9_12)] := hD
  have hK : va_K (dC, dI) vwCl [(cEl, .object "java/lang/Object")] s := hK
  obtain ⟨er_13, e_14, hL_15⟩ := hw_9
  obtain rfl := (e_14).symm
  subst er_13
  refine lv_iconst (v := 2) hx hb dX3_doLooks_11 (by decide) ?_
  refine lv_imul hx hb dX3_doLooks_12 ?_
  rw [hQ]
  have hP9 := hP.sub (ws' := [(zo1iri bo mdc9_10 aEl (nI ((sz_ + 1) + 2))), (zaR aEl cEl 10 fEl9_12)]) [0, 1] rfl
  have hD9 := hD.sub (ws' := [(zo1iri bo mdc9_10 aEl (nI ((sz_ + 1) + 2))), (zaR aEl cEl 10 fEl9_12)]) [0, 1] (by decide) rfl
  have hK9 := hK.sub (tys' := [(cEl, .object "java/lang/Object")]) [0] rfl
  exact W.iret (v := ((x + nI i0) - sv) * 2) hx hb hr (fun tQ htQ hWQ => ⟨⟨(((x + nI i0) - sv) * 2), (mdc9_10, ((sz_ + 1) + 2), fEl9_12), rfl, ⟨rfl, by omega, by have h9 := okL_as (hL_15); exact h9⟩, by rw [htQ]; exact hP9, va_K.moved hWQ.alike hK9, hD9⟩, hS.F htQ⟩) hS.2.2 dX3_doLooks_13

set_option maxHeartbeats 4000000 in
set_option maxRecDepth 100000 in
theorem c_X3_doLooks_X1_0 (l : Launch) (dC : Nat → ClassId) (dI : Nat → Nat → Nat) (ad : Nat → Nat) (cB bS : Nat)    (bo : Nat) (i0 : Nat) (sk : Int32) (sv : Int32) (scl : Int32) (x : Int32) (a0 : Nat) (mdc : Int32) (sz : Nat) : Met l yX3_doLooks wsX3_doLooks ({ frames := 6, cells := 1, slots := 10, locals := 122 } : Room) (va_Pc [.ref a0, .int x, .ref bo] (fun U => U.heap.size = sz ∧ va_P (dC, dI) vwCl [(zo1iri bo mdc bS 0)] U.heap ∧ va_K (dC, dI) vwCl [] U ∧ va_D (fun _ => True) [(zo1iri bo mdc bS 0)] ∧ Gi ad cB bS (va_A [(zo1iri bo mdc bS 0)] sz) U ∧ Gb (va_A [(zo1iri bo mdc bS 0)] sz) U ∧ Gw (va_A [(zo1iri bo mdc bS 0)] sz) U ∧ Fz dC dI [(zo3iiii a0 sk (nI i0) sv scl)] [] (va_A [(zo1iri bo mdc bS 0)] sz) U)) (va_Qi (fun (r : Int32) (u : (Int32) × (Nat) × (ClassId) × (Nat) × (Nat → Option Nat)) => match u with | (mdc9, aEl9, cEl9, sz_9, fEl9) => r = ((x + nI i0) - sv) * 2 ∧ sz_9 = 3 ∧ okL ad fEl9 sz_9 [3, 2, 1]) (fun (u : (Int32) × (Nat) × (ClassId) × (Nat) × (Nat → Option Nat)) (t : State) => match u with | (mdc9, aEl9, cEl9, sz_9, fEl9) => va_P (dC, dI) vwCl [(zo1iri bo mdc9 aEl9 (nI sz_9)), (zaR aEl9 cEl9 10 fEl9)] t.heap ∧ va_K (dC, dI) vwCl [(cEl9, .object "java/lang/Object")] t ∧ va_D (va_A [(zo1iri bo mdc bS 0)] sz) [(zo1iri bo mdc9 aEl9 (nI sz_9)), (zaR aEl9 cEl9 10 fEl9)]) (va_A [(zo1iri bo mdc bS 0)] sz)) 1 10 (va_A [(zo1iri bo mdc bS 0)] sz) := by
  refine met_ofQ (cc := cX3_doLooks) (maxL := 3) (ret := (some .int)) (by decide) rfl ?_
  intro p e s m args below meth c s₁ Q B hml hv hQ
  obtain ⟨rfl, hsz, hP, hK, hD0, hI_, hB_, hW_, hZ⟩ := hv
  have hx := B.exec
  have hb := B.bytes
  have hr := B.returns
  have hts := atoms_spec (ws := wsX3_doLooks) B.pre
  have hown : s.vm.findClass RX3 = some m.cls := findClass_of_methodNamed B.named
  have hlocks := B.notSynchronized
  subst hsz
  have hD := hD0.self (sz := s.heap.size)
  generalize hAe : va_A [(zo1iri bo mdc bS 0)] s.heap.size = A at hD hQ hI_ hB_ hW_ hZ ⊢
  have hA : ∀ q : Nat, s.heap.size ≤ q → A q := fun q h => by rw [← hAe]; exact Or.inr h
  have hS : va_S A s.heap s.heap [] := va_S.rf
  have hl := lv_entry [.ref a0, .int x, .ref bo] (n := 3) (Nat.le_of_ble_eq_true rfl)
  rw [lg_entry_eq]
  generalize (lg_sl [.ref a0, .int x, .ref bo] ++ List.replicate (3 - (lg_sl [.ref a0, .int x, .ref bo]).length) Slot.unset).toArray = ls at hl ⊢
  generalize hag : ([.ref a0, .int x, .ref bo] : List Value).toArray = args at hts hQ ⊢
  have hl : lv_has ls 3 [(0, .ref a0), (1, .int x), (2, .ref bo)] := hl
  obtain ⟨H, hH⟩ : ∃ H : Heap, H = s.heap := ⟨_, rfl⟩
  rw [← hH] at hP
  rw [← hH]
  have hS : va_S A s.heap H [] := by rw [hH]; exact hS
  obtain ⟨locs, hlo⟩ : ∃ L : List Loc, L = [] := ⟨_, rfl⟩
  rw [← hlo] at hS
  rw [← hlo]
  clear hH hlo
  refine lv_iconst (v := 3) hx hb dX3_doLooks_0 (by decide) ?_
  refine lv_aload_n hx hb dX3_doLooks_1 rfl (lv_at hl 2 rfl) ?_
  have hPc := hP.sub (ws' := [(zo1iri bo mdc bS 0)]) [0] rfl
  have hDc := hD.sub (ws' := [(zo1iri bo mdc bS 0)]) [0] (by decide) rfl
  have hKc := hK.sub (tys' := []) [] rfl
  have hFc := va_free (wc := [(zo1iri bo mdc bS 0)]) hD hS hA [0] rfl
  refine va_callv (va_runS (As := [.int 3, .ref bo]) (rest := []) ⟨hx, hb, hml, hown, hts⟩ (c_begin0 l dC dI ad cB bS bo mdc 3 H.size (by omega)) (va_cwS 2 hts gX3_doLooks_X3_begin rfl rfl rfl hd_yX3_begin.2 ⟨Nat.le_of_ble_eq_true rfl, Nat.le_of_ble_eq_true rfl⟩) ⟨fun a U g mk q => by obtain ⟨q0, q1, qP, qK, qD, qhI_⟩ := q; exact ⟨q0, mvz g mk a q1, mvP g mk a qP, mvK g mk a qK, qD, qhI_.mv g mk a⟩, fun U hU hW => ⟨rfl, by rw [hU], by rw [hU]; exact hPc, va_K.moved hW.alike hKc, hDc.weaken (fun _ _ _ _ => trivial), hI_.call hS hU hW (fun q h => hFc q h)⟩⟩ rfl rfl hl.1 rfl (lv_room (Nat.le_of_ble_eq_true rfl)) dX3_doLooks_2 ⟨Nat.le_of_ble_eq_true rfl, Nat.le_of_ble_eq_true rfl⟩) hS (fun q _ h => hFc q h) hFc (fun u tC H1 locs htC hvm hw_2 hB hz1 hk1 hS => ?_)
  obtain ⟨mdc9_3, aEl9_4, cEl9_5, sz_9_6, fEl9_7⟩ := u
  try dsimp only at hw_2 hB
  obtain ⟨hP1, hK1, hD1⟩ := hB
  rw [htC] at hP1
  have hK1 := va_K.moved hvm.symm hK1
  obtain ⟨hP, hD⟩ := va_join (wr := []) (w1 := [(zo1iri bo mdc9_3 aEl9_4 (nI sz_9_6)), (zaR aEl9_4 cEl9_5 10 fEl9_7)]) hP hD [0] [] rfl rfl (by decide) (by decide) hk1 hFc hP1 hD1
  have hK := (hK.sub (tys' := []) [] rfl).app hK1
  generalize H1 = H at hP hS ⊢
  have hP : va_P (dC, dI) vwCl [(zo1iri bo mdc9_3 aEl9_4 (nI sz_9_6)), (zaR aEl9_4 cEl9_5 10 fEl9_7)] H := hP
  have hD : va_D A [(zo1iri bo mdc9_3 aEl9_4 (nI sz_9_6)), (zaR aEl9_4 cEl9_5 10 fEl9_7)] := hD
  have hK : va_K (dC, dI) vwCl [(cEl9_5, .object "java/lang/Object")] s := hK
  refine W.widen (k := 1) (n := 10) (by omega) (by omega) ?_
  obtain ⟨e_8, hL_9⟩ := hw_2
  obtain rfl := (e_8).symm
  refine lv_aload_n hx hb dX3_doLooks_5 rfl (lv_at hl 0 rfl) ?_
  refine lv_iload_n hx hb dX3_doLooks_6 rfl (lv_at hl 1 rfl) ?_
  refine lv_aload_n hx hb dX3_doLooks_7 rfl (lv_at hl 2 rfl) ?_
  have hPc := hP.sub (ws' := [(zo1iri bo mdc9_3 aEl9_4 (nI 1)), (zaR aEl9_4 cEl9_5 10 fEl9_7)]) [0, 1] rfl
  have hDc := hD.sub (ws' := [(zo1iri bo mdc9_3 aEl9_4 (nI 1)), (zaR aEl9_4 cEl9_5 10 fEl9_7)]) [0, 1] (by decide) rfl
  have hKc := hK.sub (tys' := [(cEl9_5, .object "java/lang/Object")]) [0] rfl
  have hFc := va_free (wc := [(zo1iri bo mdc9_3 aEl9_4 (nI 1)), (zaR aEl9_4 cEl9_5 10 fEl9_7)]) hD hS hA [0, 1] rfl
  refine va_calli (va_runU (As := [.int x, .ref bo]) (rest := []) ⟨hx, hb, hml, hown, hts⟩ (c_X3_doGoes_X1_1 l dC dI ad cB bS    bo aEl9_4 i0 sk sv scl x cEl9_5 fEl9_7 a0 1 mdc9_3 ([3]) H.size (by omega) (hL_9)) (va_cwU 2 hts gX3_doLooks_X3_doGoes_u42X1 rfl rfl rfl rfl (by decide +kernel) ⟨Nat.le_of_ble_eq_true rfl, Nat.le_of_ble_eq_true rfl⟩) ⟨fun a U g mk q => by obtain ⟨q0, q1, qP, qK, qD, qhI_, qhB_, qhW_, qhZ⟩ := q; exact ⟨q0, mvz g mk a q1, mvP g mk a qP, mvK g mk a qK, qD, qhI_.mv g mk a, qhB_.mv g mk a, qhW_.mv g mk a, qhZ.mv g mk a⟩, va_recv hZ.2.1 (hZ.P hS) (ci := 3) (q := (RX1, TX1, 4)) (q0 := 0) rfl rfl, fun U hU hW => ⟨rfl, by rw [hU], by rw [hU]; exact hPc, va_K.moved hW.alike hKc, hDc.weaken (fun _ _ _ _ => trivial), hI_.call hS hU hW (fun q h => hFc q h), hB_.call hS hU hW (fun q h => hFc q h), hW_.call hS hU hW (fun q h => hFc q h), (hZ.sub [0] [] rfl rfl).call hS hU hW (fun q h => hFc q h)⟩⟩ rfl rfl hl.1 rfl (lv_room (Nat.le_of_ble_eq_true rfl)) dX3_doLooks_8 ⟨Nat.le_of_ble_eq_true rfl, Nat.le_of_ble_eq_true rfl⟩) hS (fun q _ h => hFc q h) hFc (fun r_10 u tC H1 locs htC hvm hw_11 hB hz1 hk1 hS => ?_)
  obtain ⟨mdc9_12, sz_9_13, fEl9_14⟩ := u
  try dsimp only at hw_11 hB
  obtain ⟨hP1, hK1, hD1⟩ := hB
  rw [htC] at hP1
  have hK1 := va_K.moved hvm.symm hK1
  obtain ⟨hP, hD⟩ := va_join (wr := []) (w1 := [(zo1iri bo mdc9_12 aEl9_4 (nI sz_9_13)), (zaR aEl9_4 cEl9_5 10 fEl9_14)]) hP hD [0, 1] [] rfl rfl (by decide) (by decide) hk1 hFc hP1 hD1
  have hK := (hK.sub (tys' := []) [] rfl).app hK1
  generalize H1 = H at hP hS ⊢
  have hP : va_P (dC, dI) vwCl [(zo1iri bo mdc9_12 aEl9_4 (nI sz_9_13)), (zaR aEl9_4 cEl9_5 10 fEl9_14)] H := hP
  have hD : va_D A [(zo1iri bo mdc9_12 aEl9_4 (nI sz_9_13)), (zaR aEl9_4 cEl9_5 10 fEl9_14)] := hD
  have hK : va_K (dC, dI) vwCl [(cEl9_5, .object "java/lang/Object")] s := hK
  obtain ⟨er_15, e_16, hL_17⟩ := hw_11
  obtain rfl := (e_16).symm
  subst er_15
  refine lv_iconst (v := 2) hx hb dX3_doLooks_11 (by decide) ?_
  refine lv_imul hx hb dX3_doLooks_12 ?_
  rw [hQ]
  have hP9 := hP.sub (ws' := [(zo1iri bo mdc9_12 aEl9_4 (nI (1 + 2))), (zaR aEl9_4 cEl9_5 10 fEl9_14)]) [0, 1] rfl
  have hD9 := hD.sub (ws' := [(zo1iri bo mdc9_12 aEl9_4 (nI (1 + 2))), (zaR aEl9_4 cEl9_5 10 fEl9_14)]) [0, 1] (by decide) rfl
  have hK9 := hK.sub (tys' := [(cEl9_5, .object "java/lang/Object")]) [0] rfl
  refine W.widen (k := 1) (n := 10) (by omega) (by omega) ?_
  exact W.iret (v := ((x + nI i0) - sv) * 2) hx hb hr (fun tQ htQ hWQ => ⟨⟨(((x + nI i0) - sv) * 2), (mdc9_12, aEl9_4, cEl9_5, (1 + 2), fEl9_14), rfl, ⟨rfl, by omega, hL_17⟩, by rw [htQ]; exact hP9, va_K.moved hWQ.alike hK9, hD9⟩, hS.F htQ⟩) hS.2.2 dX3_doLooks_13

set_option maxHeartbeats 4000000 in
set_option maxRecDepth 100000 in
theorem c_X1_doLooks_X1_1 (l : Launch) (dC : Nat → ClassId) (dI : Nat → Nat → Nat) (ad : Nat → Nat) (cB bS : Nat)    (bo : Nat) (aEl : Nat) (i0 : Nat) (sk : Int32) (sv : Int32) (scl : Int32) (x : Int32) (cEl : ClassId) (fEl : Nat → Option Nat) (a0 : Nat) (sz_ : Nat) (mdc : Int32) (tl : List Nat) (sz : Nat) (hsz : sz_ + 4 ≤ 10) (zL : okL ad fEl sz_ tl) : Met l yX1_doLooks wsX1_doLooks ({ frames := 6, cells := 0, slots := 0, locals := 131 } : Room) (va_Pc [.ref a0, .int x, .ref bo] (fun U => U.heap.size = sz ∧ va_P (dC, dI) vwCl [(zo1iri bo mdc aEl (nI sz_)), (zaR aEl cEl 10 fEl)] U.heap ∧ va_K (dC, dI) vwCl [(cEl, .object "java/lang/Object")] U ∧ va_D (fun _ => True) [(zo1iri bo mdc aEl (nI sz_)), (zaR aEl cEl 10 fEl)] ∧ Gi ad cB bS (va_A [(zo1iri bo mdc aEl (nI sz_)), (zaR aEl cEl 10 fEl)] sz) U ∧ Gb (va_A [(zo1iri bo mdc aEl (nI sz_)), (zaR aEl cEl 10 fEl)] sz) U ∧ Gw (va_A [(zo1iri bo mdc aEl (nI sz_)), (zaR aEl cEl 10 fEl)] sz) U ∧ Fz dC dI [(zo3iiii a0 sk (nI i0) sv scl)] [] (va_A [(zo1iri bo mdc aEl (nI sz_)), (zaR aEl cEl 10 fEl)] sz) U)) (va_Qi (fun (r : Int32) (u : (Int32) × (Nat) × (Nat → Option Nat)) => match u with | (mdc9, sz_9, fEl9) => r = (((x + nI i0) - sv) * 2) ^^^ 7 ∧ sz_9 = sz_ + 4 ∧ okL ad fEl9 sz_9 (tl ++ [31, 3, 2, 1])) (fun (u : (Int32) × (Nat) × (Nat → Option Nat)) (t : State) => match u with | (mdc9, sz_9, fEl9) => va_P (dC, dI) vwCl [(zo1iri bo mdc9 aEl (nI sz_9)), (zaR aEl cEl 10 fEl9)] t.heap ∧ va_K (dC, dI) vwCl [(cEl, .object "java/lang/Object")] t ∧ va_D (va_A [(zo1iri bo mdc aEl (nI sz_)), (zaR aEl cEl 10 fEl)] sz) [(zo1iri bo mdc9 aEl (nI sz_9)), (zaR aEl cEl 10 fEl9)]) (va_A [(zo1iri bo mdc aEl (nI sz_)), (zaR aEl cEl 10 fEl)] sz)) 0 0 (va_A [(zo1iri bo mdc aEl (nI sz_)), (zaR aEl cEl 10 fEl)] sz) := by
  refine met_ofQ (cc := cX1_doLooks) (maxL := 3) (ret := (some .int)) (by decide) rfl ?_
  intro p e s m args below meth c s₁ Q B hml hv hQ
  obtain ⟨rfl, hsz, hP, hK, hD0, hI_, hB_, hW_, hZ⟩ := hv
  have hx := B.exec
  have hb := B.bytes
  have hr := B.returns
  have hts := atoms_spec (ws := wsX1_doLooks) B.pre
  have hown : s.vm.findClass RX1 = some m.cls := findClass_of_methodNamed B.named
  have hlocks := B.notSynchronized
  subst hsz
  have hD := hD0.self (sz := s.heap.size)
  generalize hAe : va_A [(zo1iri bo mdc aEl (nI sz_)), (zaR aEl cEl 10 fEl)] s.heap.size = A at hD hQ hI_ hB_ hW_ hZ ⊢
  have hA : ∀ q : Nat, s.heap.size ≤ q → A q := fun q h => by rw [← hAe]; exact Or.inr h
  have hS : va_S A s.heap s.heap [] := va_S.rf
  have hl := lv_entry [.ref a0, .int x, .ref bo] (n := 3) (Nat.le_of_ble_eq_true rfl)
  rw [lg_entry_eq]
  generalize (lg_sl [.ref a0, .int x, .ref bo] ++ List.replicate (3 - (lg_sl [.ref a0, .int x, .ref bo]).length) Slot.unset).toArray = ls at hl ⊢
  generalize hag : ([.ref a0, .int x, .ref bo] : List Value).toArray = args at hts hQ ⊢
  have hl : lv_has ls 3 [(0, .ref a0), (1, .int x), (2, .ref bo)] := hl
  obtain ⟨H, hH⟩ : ∃ H : Heap, H = s.heap := ⟨_, rfl⟩
  rw [← hH] at hP
  rw [← hH]
  have hS : va_S A s.heap H [] := by rw [hH]; exact hS
  obtain ⟨locs, hlo⟩ : ∃ L : List Loc, L = [] := ⟨_, rfl⟩
  rw [← hlo] at hS
  rw [← hlo]
  clear hH hlo
  refine lv_bipush (v := 31) hx hb dX1_doLooks_0 (by decide) ?_
  refine lv_aload_n hx hb dX1_doLooks_2 rfl (lv_at hl 2 rfl) ?_
  have hPc := hP.sub (ws' := [(zo1iri bo mdc aEl (nI sz_)), (zaR aEl cEl 10 fEl)]) [0, 1] rfl
  have hDc := hD.sub (ws' := [(zo1iri bo mdc aEl (nI sz_)), (zaR aEl cEl 10 fEl)]) [0, 1] (by decide) rfl
  have hKc := hK.sub (tys' := [(cEl, .object "java/lang/Object")]) [0] rfl
  have hFc := va_free (wc := [(zo1iri bo mdc aEl (nI sz_)), (zaR aEl cEl 10 fEl)]) hD hS hA [0, 1] rfl
  refine va_callv (va_runU2 (As := [.int 31, .ref bo]) (rest := []) ⟨hx, hb, hml, hown, hts⟩ (c_begin1 l dC dI ad cB bS bo aEl 31 cEl fEl sz_ mdc tl H.size (by omega) (by omega) (zL)) (u2_cw (x := xb1) 2 hB_ inb1 rfl rfl rfl rfl rfl (by decide +kernel) ⟨Nat.le_of_ble_eq_true rfl, Nat.le_of_ble_eq_true rfl⟩) ⟨fun a U g mk q => by obtain ⟨q0, q1, qP, qK, qD, qhI_⟩ := q; exact ⟨q0, mvz g mk a q1, mvP g mk a qP, mvK g mk a qK, qD, qhI_.mv g mk a⟩, fun U hU hW => ⟨rfl, by rw [hU], by rw [hU]; exact hPc, va_K.moved hW.alike hKc, hDc.weaken (fun _ _ _ _ => trivial), hI_.call hS hU hW (fun q h => hFc q h)⟩⟩ rfl rfl hl.1 rfl (lv_room (Nat.le_of_ble_eq_true rfl)) dX1_doLooks_3 ⟨Nat.le_of_ble_eq_true rfl, Nat.le_of_ble_eq_true rfl⟩) hS (fun q _ h => hFc q h) hFc (fun u tC H1 locs htC hvm hw_2 hB hz1 hk1 hS => ?_)
  obtain ⟨mdc9_3, sz_9_4, fEl9_5⟩ := u
  try dsimp only at hw_2 hB
  obtain ⟨hP1, hK1, hD1⟩ := hB
  rw [htC] at hP1
  have hK1 := va_K.moved hvm.symm hK1
  obtain ⟨hP, hD⟩ := va_join (wr := []) (w1 := [(zo1iri bo mdc9_3 aEl (nI sz_9_4)), (zaR aEl cEl 10 fEl9_5)]) hP hD [0, 1] [] rfl rfl (by decide) (by decide) hk1 hFc hP1 hD1
  have hK := (hK.sub (tys' := []) [] rfl).app hK1
  generalize H1 = H at hP hS ⊢
  have hP : va_P (dC, dI) vwCl [(zo1iri bo mdc9_3 aEl (nI sz_9_4)), (zaR aEl cEl 10 fEl9_5)] H := hP
  have hD : va_D A [(zo1iri bo mdc9_3 aEl (nI sz_9_4)), (zaR aEl cEl 10 fEl9_5)] := hD
  have hK : va_K (dC, dI) vwCl [(cEl, .object "java/lang/Object")] s := hK
  obtain ⟨e_6, hL_7⟩ := hw_2
  obtain rfl := (e_6).symm
  refine lv_aload_n hx hb dX1_doLooks_6 rfl (lv_at hl 0 rfl) ?_
  refine lv_iload_n hx hb dX1_doLooks_7 rfl (lv_at hl 1 rfl) ?_
  refine lv_aload_n hx hb dX1_doLooks_8 rfl (lv_at hl 2 rfl) ?_
  have hPc := hP.sub (ws' := [(zo1iri bo mdc9_3 aEl (nI (sz_ + 1))), (zaR aEl cEl 10 fEl9_5)]) [0, 1] rfl
  have hDc := hD.sub (ws' := [(zo1iri bo mdc9_3 aEl (nI (sz_ + 1))), (zaR aEl cEl 10 fEl9_5)]) [0, 1] (by decide) rfl
  have hKc := hK.sub (tys' := [(cEl, .object "java/lang/Object")]) [0] rfl
  have hFc := va_free (wc := [(zo1iri bo mdc9_3 aEl (nI (sz_ + 1))), (zaR aEl cEl 10 fEl9_5)]) hD hS hA [0, 1] rfl
  refine va_calli (va_runSU (hZ.2.1.1 3 (RX1, TX1, 4) rfl).2 (As := [.int x, .ref bo]) (rest := []) ⟨hx, hb, hml, hown, hts⟩ (c_X3_doLooks_X1_1 l dC dI ad cB bS    bo aEl i0 sk sv scl x cEl fEl9_5 a0 (sz_ + 1) mdc9_3 (tl ++ [31]) H.size (by omega) (hL_7)) (va_cwSU 2 hts gX1_doLooks_X3_doLooks_s13 rfl rfl rfl (by decide +kernel) ⟨Nat.le_of_ble_eq_true rfl, Nat.le_of_ble_eq_true rfl⟩) ⟨fun a U g mk q => by obtain ⟨q0, q1, qP, qK, qD, qhI_, qhB_, qhW_, qhZ⟩ := q; exact ⟨q0, mvz g mk a q1, mvP g mk a qP, mvK g mk a qK, qD, qhI_.mv g mk a, qhB_.mv g mk a, qhW_.mv g mk a, qhZ.mv g mk a⟩, va_recv hZ.2.1 (hZ.P hS) (ci := 3) (q := (RX1, TX1, 4)) (q0 := 0) rfl rfl, fun U hU hW => ⟨rfl, by rw [hU], by rw [hU]; exact hPc, va_K.moved hW.alike hKc, hDc.weaken (fun _ _ _ _ => trivial), hI_.call hS hU hW (fun q h => hFc q h), hB_.call hS hU hW (fun q h => hFc q h), hW_.call hS hU hW (fun q h => hFc q h), (hZ.sub [0] [] rfl rfl).call hS hU hW (fun q h => hFc q h)⟩⟩ rfl rfl hl.1 rfl (lv_room (Nat.le_of_ble_eq_true rfl)) dX1_doLooks_9 ⟨Nat.le_of_ble_eq_true rfl, Nat.le_of_ble_eq_true rfl⟩) hS (fun q _ h => hFc q h) hFc (fun r_8 u tC H1 locs htC hvm hw_9 hB hz1 hk1 hS => ?_)
  obtain ⟨mdc9_10, sz_9_11, fEl9_12⟩ := u
  try dsimp only at hw_9 hB
  obtain ⟨hP1, hK1, hD1⟩ := hB
  rw [htC] at hP1
  have hK1 := va_K.moved hvm.symm hK1
  obtain ⟨hP, hD⟩ := va_join (wr := []) (w1 := [(zo1iri bo mdc9_10 aEl (nI sz_9_11)), (zaR aEl cEl 10 fEl9_12)]) hP hD [0, 1] [] rfl rfl (by decide) (by decide) hk1 hFc hP1 hD1
  have hK := (hK.sub (tys' := []) [] rfl).app hK1
  generalize H1 = H at hP hS ⊢
  have hP : va_P (dC, dI) vwCl [(zo1iri bo mdc9_10 aEl (nI sz_9_11)), (zaR aEl cEl 10 fEl9_12)] H := hP
  have hD : va_D A [(zo1iri bo mdc9_10 aEl (nI sz_9_11)), (zaR aEl cEl 10 fEl9_12)] := hD
  have hK : va_K (dC, dI) vwCl [(cEl, .object "java/lang/Object")] s := hK
  obtain ⟨er_13, e_14, hL_15⟩ := hw_9
  obtain rfl := (e_14).symm
  subst er_13
  refine lv_bipush (v := 7) hx hb dX1_doLooks_12 (by decide) ?_
  refine lv_ixor hx hb dX1_doLooks_14 ?_
  rw [hQ]
  have hP9 := hP.sub (ws' := [(zo1iri bo mdc9_10 aEl (nI ((sz_ + 1) + 3))), (zaR aEl cEl 10 fEl9_12)]) [0, 1] rfl
  have hD9 := hD.sub (ws' := [(zo1iri bo mdc9_10 aEl (nI ((sz_ + 1) + 3))), (zaR aEl cEl 10 fEl9_12)]) [0, 1] (by decide) rfl
  have hK9 := hK.sub (tys' := [(cEl, .object "java/lang/Object")]) [0] rfl
  exact W.iret (v := (((x + nI i0) - sv) * 2) ^^^ 7) hx hb hr (fun tQ htQ hWQ => ⟨⟨((((x + nI i0) - sv) * 2) ^^^ 7), (mdc9_10, ((sz_ + 1) + 3), fEl9_12), rfl, ⟨rfl, by omega, by have h9 := okL_as (hL_15); exact h9⟩, by rw [htQ]; exact hP9, va_K.moved hWQ.alike hK9, hD9⟩, hS.F htQ⟩) hS.2.2 dX1_doLooks_15

set_option maxHeartbeats 4000000 in
set_option maxRecDepth 100000 in
theorem c_X1_doLooks_X1_0 (l : Launch) (dC : Nat → ClassId) (dI : Nat → Nat → Nat) (ad : Nat → Nat) (cB bS : Nat)    (bo : Nat) (i0 : Nat) (sk : Int32) (sv : Int32) (scl : Int32) (x : Int32) (a0 : Nat) (mdc : Int32) (sz : Nat) : Met l yX1_doLooks wsX1_doLooks ({ frames := 6, cells := 1, slots := 10, locals := 131 } : Room) (va_Pc [.ref a0, .int x, .ref bo] (fun U => U.heap.size = sz ∧ va_P (dC, dI) vwCl [(zo1iri bo mdc bS 0)] U.heap ∧ va_K (dC, dI) vwCl [] U ∧ va_D (fun _ => True) [(zo1iri bo mdc bS 0)] ∧ Gi ad cB bS (va_A [(zo1iri bo mdc bS 0)] sz) U ∧ Gb (va_A [(zo1iri bo mdc bS 0)] sz) U ∧ Gw (va_A [(zo1iri bo mdc bS 0)] sz) U ∧ Fz dC dI [(zo3iiii a0 sk (nI i0) sv scl)] [] (va_A [(zo1iri bo mdc bS 0)] sz) U)) (va_Qi (fun (r : Int32) (u : (Int32) × (Nat) × (ClassId) × (Nat) × (Nat → Option Nat)) => match u with | (mdc9, aEl9, cEl9, sz_9, fEl9) => r = (((x + nI i0) - sv) * 2) ^^^ 7 ∧ sz_9 = 4 ∧ okL ad fEl9 sz_9 [31, 3, 2, 1]) (fun (u : (Int32) × (Nat) × (ClassId) × (Nat) × (Nat → Option Nat)) (t : State) => match u with | (mdc9, aEl9, cEl9, sz_9, fEl9) => va_P (dC, dI) vwCl [(zo1iri bo mdc9 aEl9 (nI sz_9)), (zaR aEl9 cEl9 10 fEl9)] t.heap ∧ va_K (dC, dI) vwCl [(cEl9, .object "java/lang/Object")] t ∧ va_D (va_A [(zo1iri bo mdc bS 0)] sz) [(zo1iri bo mdc9 aEl9 (nI sz_9)), (zaR aEl9 cEl9 10 fEl9)]) (va_A [(zo1iri bo mdc bS 0)] sz)) 1 10 (va_A [(zo1iri bo mdc bS 0)] sz) := by
  refine met_ofQ (cc := cX1_doLooks) (maxL := 3) (ret := (some .int)) (by decide) rfl ?_
  intro p e s m args below meth c s₁ Q B hml hv hQ
  obtain ⟨rfl, hsz, hP, hK, hD0, hI_, hB_, hW_, hZ⟩ := hv
  have hx := B.exec
  have hb := B.bytes
  have hr := B.returns
  have hts := atoms_spec (ws := wsX1_doLooks) B.pre
  have hown : s.vm.findClass RX1 = some m.cls := findClass_of_methodNamed B.named
  have hlocks := B.notSynchronized
  subst hsz
  have hD := hD0.self (sz := s.heap.size)
  generalize hAe : va_A [(zo1iri bo mdc bS 0)] s.heap.size = A at hD hQ hI_ hB_ hW_ hZ ⊢
  have hA : ∀ q : Nat, s.heap.size ≤ q → A q := fun q h => by rw [← hAe]; exact Or.inr h
  have hS : va_S A s.heap s.heap [] := va_S.rf
  have hl := lv_entry [.ref a0, .int x, .ref bo] (n := 3) (Nat.le_of_ble_eq_true rfl)
  rw [lg_entry_eq]
  generalize (lg_sl [.ref a0, .int x, .ref bo] ++ List.replicate (3 - (lg_sl [.ref a0, .int x, .ref bo]).length) Slot.unset).toArray = ls at hl ⊢
  generalize hag : ([.ref a0, .int x, .ref bo] : List Value).toArray = args at hts hQ ⊢
  have hl : lv_has ls 3 [(0, .ref a0), (1, .int x), (2, .ref bo)] := hl
  obtain ⟨H, hH⟩ : ∃ H : Heap, H = s.heap := ⟨_, rfl⟩
  rw [← hH] at hP
  rw [← hH]
  have hS : va_S A s.heap H [] := by rw [hH]; exact hS
  obtain ⟨locs, hlo⟩ : ∃ L : List Loc, L = [] := ⟨_, rfl⟩
  rw [← hlo] at hS
  rw [← hlo]
  clear hH hlo
  refine lv_bipush (v := 31) hx hb dX1_doLooks_0 (by decide) ?_
  refine lv_aload_n hx hb dX1_doLooks_2 rfl (lv_at hl 2 rfl) ?_
  have hPc := hP.sub (ws' := [(zo1iri bo mdc bS 0)]) [0] rfl
  have hDc := hD.sub (ws' := [(zo1iri bo mdc bS 0)]) [0] (by decide) rfl
  have hKc := hK.sub (tys' := []) [] rfl
  have hFc := va_free (wc := [(zo1iri bo mdc bS 0)]) hD hS hA [0] rfl
  refine va_callv (va_runU2 (As := [.int 31, .ref bo]) (rest := []) ⟨hx, hb, hml, hown, hts⟩ (c_begin0 l dC dI ad cB bS bo mdc 31 H.size (by omega)) (u2_cw (x := xb1) 2 hB_ inb1 rfl rfl rfl rfl rfl (by decide +kernel) ⟨Nat.le_of_ble_eq_true rfl, Nat.le_of_ble_eq_true rfl⟩) ⟨fun a U g mk q => by obtain ⟨q0, q1, qP, qK, qD, qhI_⟩ := q; exact ⟨q0, mvz g mk a q1, mvP g mk a qP, mvK g mk a qK, qD, qhI_.mv g mk a⟩, fun U hU hW => ⟨rfl, by rw [hU], by rw [hU]; exact hPc, va_K.moved hW.alike hKc, hDc.weaken (fun _ _ _ _ => trivial), hI_.call hS hU hW (fun q h => hFc q h)⟩⟩ rfl rfl hl.1 rfl (lv_room (Nat.le_of_ble_eq_true rfl)) dX1_doLooks_3 ⟨Nat.le_of_ble_eq_true rfl, Nat.le_of_ble_eq_true rfl⟩) hS (fun q _ h => hFc q h) hFc (fun u tC H1 locs htC hvm hw_2 hB hz1 hk1 hS => ?_)
  obtain ⟨mdc9_3, aEl9_4, cEl9_5, sz_9_6, fEl9_7⟩ := u
  try dsimp only at hw_2 hB
  obtain ⟨hP1, hK1, hD1⟩ := hB
  rw [htC] at hP1
  have hK1 := va_K.moved hvm.symm hK1
  obtain ⟨hP, hD⟩ := va_join (wr := []) (w1 := [(zo1iri bo mdc9_3 aEl9_4 (nI sz_9_6)), (zaR aEl9_4 cEl9_5 10 fEl9_7)]) hP hD [0] [] rfl rfl (by decide) (by decide) hk1 hFc hP1 hD1
  have hK := (hK.sub (tys' := []) [] rfl).app hK1
  generalize H1 = H at hP hS ⊢
  have hP : va_P (dC, dI) vwCl [(zo1iri bo mdc9_3 aEl9_4 (nI sz_9_6)), (zaR aEl9_4 cEl9_5 10 fEl9_7)] H := hP
  have hD : va_D A [(zo1iri bo mdc9_3 aEl9_4 (nI sz_9_6)), (zaR aEl9_4 cEl9_5 10 fEl9_7)] := hD
  have hK : va_K (dC, dI) vwCl [(cEl9_5, .object "java/lang/Object")] s := hK
  refine W.widen (k := 1) (n := 10) (by omega) (by omega) ?_
  obtain ⟨e_8, hL_9⟩ := hw_2
  obtain rfl := (e_8).symm
  refine lv_aload_n hx hb dX1_doLooks_6 rfl (lv_at hl 0 rfl) ?_
  refine lv_iload_n hx hb dX1_doLooks_7 rfl (lv_at hl 1 rfl) ?_
  refine lv_aload_n hx hb dX1_doLooks_8 rfl (lv_at hl 2 rfl) ?_
  have hPc := hP.sub (ws' := [(zo1iri bo mdc9_3 aEl9_4 (nI 1)), (zaR aEl9_4 cEl9_5 10 fEl9_7)]) [0, 1] rfl
  have hDc := hD.sub (ws' := [(zo1iri bo mdc9_3 aEl9_4 (nI 1)), (zaR aEl9_4 cEl9_5 10 fEl9_7)]) [0, 1] (by decide) rfl
  have hKc := hK.sub (tys' := [(cEl9_5, .object "java/lang/Object")]) [0] rfl
  have hFc := va_free (wc := [(zo1iri bo mdc9_3 aEl9_4 (nI 1)), (zaR aEl9_4 cEl9_5 10 fEl9_7)]) hD hS hA [0, 1] rfl
  refine va_calli (va_runSU (hZ.2.1.1 3 (RX1, TX1, 4) rfl).2 (As := [.int x, .ref bo]) (rest := []) ⟨hx, hb, hml, hown, hts⟩ (c_X3_doLooks_X1_1 l dC dI ad cB bS    bo aEl9_4 i0 sk sv scl x cEl9_5 fEl9_7 a0 1 mdc9_3 ([31]) H.size (by omega) (hL_9)) (va_cwSU 2 hts gX1_doLooks_X3_doLooks_s13 rfl rfl rfl (by decide +kernel) ⟨Nat.le_of_ble_eq_true rfl, Nat.le_of_ble_eq_true rfl⟩) ⟨fun a U g mk q => by obtain ⟨q0, q1, qP, qK, qD, qhI_, qhB_, qhW_, qhZ⟩ := q; exact ⟨q0, mvz g mk a q1, mvP g mk a qP, mvK g mk a qK, qD, qhI_.mv g mk a, qhB_.mv g mk a, qhW_.mv g mk a, qhZ.mv g mk a⟩, va_recv hZ.2.1 (hZ.P hS) (ci := 3) (q := (RX1, TX1, 4)) (q0 := 0) rfl rfl, fun U hU hW => ⟨rfl, by rw [hU], by rw [hU]; exact hPc, va_K.moved hW.alike hKc, hDc.weaken (fun _ _ _ _ => trivial), hI_.call hS hU hW (fun q h => hFc q h), hB_.call hS hU hW (fun q h => hFc q h), hW_.call hS hU hW (fun q h => hFc q h), (hZ.sub [0] [] rfl rfl).call hS hU hW (fun q h => hFc q h)⟩⟩ rfl rfl hl.1 rfl (lv_room (Nat.le_of_ble_eq_true rfl)) dX1_doLooks_9 ⟨Nat.le_of_ble_eq_true rfl, Nat.le_of_ble_eq_true rfl⟩) hS (fun q _ h => hFc q h) hFc (fun r_10 u tC H1 locs htC hvm hw_11 hB hz1 hk1 hS => ?_)
  obtain ⟨mdc9_12, sz_9_13, fEl9_14⟩ := u
  try dsimp only at hw_11 hB
  obtain ⟨hP1, hK1, hD1⟩ := hB
  rw [htC] at hP1
  have hK1 := va_K.moved hvm.symm hK1
  obtain ⟨hP, hD⟩ := va_join (wr := []) (w1 := [(zo1iri bo mdc9_12 aEl9_4 (nI sz_9_13)), (zaR aEl9_4 cEl9_5 10 fEl9_14)]) hP hD [0, 1] [] rfl rfl (by decide) (by decide) hk1 hFc hP1 hD1
  have hK := (hK.sub (tys' := []) [] rfl).app hK1
  generalize H1 = H at hP hS ⊢
  have hP : va_P (dC, dI) vwCl [(zo1iri bo mdc9_12 aEl9_4 (nI sz_9_13)), (zaR aEl9_4 cEl9_5 10 fEl9_14)] H := hP
  have hD : va_D A [(zo1iri bo mdc9_12 aEl9_4 (nI sz_9_13)), (zaR aEl9_4 cEl9_5 10 fEl9_14)] := hD
  have hK : va_K (dC, dI) vwCl [(cEl9_5, .object "java/lang/Object")] s := hK
  obtain ⟨er_15, e_16, hL_17⟩ := hw_11
  obtain rfl := (e_16).symm
  subst er_15
  refine lv_bipush (v := 7) hx hb dX1_doLooks_12 (by decide) ?_
  refine lv_ixor hx hb dX1_doLooks_14 ?_
  rw [hQ]
  have hP9 := hP.sub (ws' := [(zo1iri bo mdc9_12 aEl9_4 (nI (1 + 3))), (zaR aEl9_4 cEl9_5 10 fEl9_14)]) [0, 1] rfl
  have hD9 := hD.sub (ws' := [(zo1iri bo mdc9_12 aEl9_4 (nI (1 + 3))), (zaR aEl9_4 cEl9_5 10 fEl9_14)]) [0, 1] (by decide) rfl
  have hK9 := hK.sub (tys' := [(cEl9_5, .object "java/lang/Object")]) [0] rfl
  refine W.widen (k := 1) (n := 10) (by omega) (by omega) ?_
  exact W.iret (v := (((x + nI i0) - sv) * 2) ^^^ 7) hx hb hr (fun tQ htQ hWQ => ⟨⟨((((x + nI i0) - sv) * 2) ^^^ 7), (mdc9_12, aEl9_4, cEl9_5, (1 + 3), fEl9_14), rfl, ⟨rfl, by omega, hL_17⟩, by rw [htQ]; exact hP9, va_K.moved hWQ.alike hK9, hD9⟩, hS.F htQ⟩) hS.2.2 dX1_doLooks_15

theorem kc_X3_doSees_X10_1_0 : (.fieldLink RX3 15 "MistHeaps$Heap" "number" "I" : Cond) ∈ wsX3_doSees := kc_of 231 rfl rfl rfl
theorem kc_X3_doSees_X10_1_1 : ∀ w ∈ wsX100, w ∈ wsX3_doSees := fun w h => List.mem_cons_of_mem _ (gin_wsX100 w h)
set_option maxHeartbeats 4000000 in
set_option maxRecDepth 100000 in
theorem c_X3_doSees_X10_1 (l : Launch) (dC : Nat → ClassId) (dI : Nat → Nat → Nat) (ad : Nat → Nat) (cB bS : Nat)    (bo : Nat) (aEl : Nat) (i0 : Nat) (sk : Int32) (sv : Int32) (scl : Int32) (x : Int32) (cEl : ClassId) (fEl : Nat → Option Nat) (a0 : Nat) (sz_ : Nat) (mdc : Int32) (tl : List Nat) (sz : Nat) (hsz : sz_ + 1 ≤ 10) (zL : okL ad fEl sz_ tl) : Met l yX3_doSees wsX3_doSees ({ frames := 3, cells := 0, slots := 0, locals := 65 } : Room) (va_Pc [.ref a0, .int x, .ref bo] (fun U => U.heap.size = sz ∧ va_P (dC, dI) vwCl [(zo1iri bo mdc aEl (nI sz_)), (zaR aEl cEl 10 fEl)] U.heap ∧ va_K (dC, dI) vwCl [(cEl, .object "java/lang/Object")] U ∧ va_D (fun _ => True) [(zo1iri bo mdc aEl (nI sz_)), (zaR aEl cEl 10 fEl)] ∧ Gi ad cB bS (va_A [(zo1iri bo mdc aEl (nI sz_)), (zaR aEl cEl 10 fEl)] sz) U ∧ Gb (va_A [(zo1iri bo mdc aEl (nI sz_)), (zaR aEl cEl 10 fEl)] sz) U ∧ Gw (va_A [(zo1iri bo mdc aEl (nI sz_)), (zaR aEl cEl 10 fEl)] sz) U ∧ Fz dC dI [(zo12iiii a0 sk (nI i0) sv scl)] [] (va_A [(zo1iri bo mdc aEl (nI sz_)), (zaR aEl cEl 10 fEl)] sz) U)) (va_Qi (fun (r : Int32) (u : (Int32) × (Nat) × (Nat → Option Nat)) => match u with | (mdc9, sz_9, fEl9) => r = x + nI i0 ∧ sz_9 = sz_ + 1 ∧ okL ad fEl9 sz_9 (tl ++ [1])) (fun (u : (Int32) × (Nat) × (Nat → Option Nat)) (t : State) => match u with | (mdc9, sz_9, fEl9) => va_P (dC, dI) vwCl [(zo1iri bo mdc9 aEl (nI sz_9)), (zaR aEl cEl 10 fEl9)] t.heap ∧ va_K (dC, dI) vwCl [(cEl, .object "java/lang/Object")] t ∧ va_D (va_A [(zo1iri bo mdc aEl (nI sz_)), (zaR aEl cEl 10 fEl)] sz) [(zo1iri bo mdc9 aEl (nI sz_9)), (zaR aEl cEl 10 fEl9)]) (va_A [(zo1iri bo mdc aEl (nI sz_)), (zaR aEl cEl 10 fEl)] sz)) 0 0 (va_A [(zo1iri bo mdc aEl (nI sz_)), (zaR aEl cEl 10 fEl)] sz) := by
  refine met_ofQ (cc := cX3_doSees) (maxL := 3) (ret := (some .int)) (by decide) rfl ?_
  intro p e s m args below meth c s₁ Q B hml hv hQ
  obtain ⟨rfl, hsz, hP, hK, hD0, hI_, hB_, hW_, hZ⟩ := hv
  have hx := B.exec
  have hb := B.bytes
  have hr := B.returns
  have hts := atoms_spec (ws := wsX3_doSees) B.pre
  have hown : s.vm.findClass RX3 = some m.cls := findClass_of_methodNamed B.named
  have hlocks := B.notSynchronized
  subst hsz
  have hD := hD0.self (sz := s.heap.size)
  generalize hAe : va_A [(zo1iri bo mdc aEl (nI sz_)), (zaR aEl cEl 10 fEl)] s.heap.size = A at hD hQ hI_ hB_ hW_ hZ ⊢
  have hA : ∀ q : Nat, s.heap.size ≤ q → A q := fun q h => by rw [← hAe]; exact Or.inr h
  have hS : va_S A s.heap s.heap [] := va_S.rf
  have hl := lv_entry [.ref a0, .int x, .ref bo] (n := 3) (Nat.le_of_ble_eq_true rfl)
  rw [lg_entry_eq]
  generalize (lg_sl [.ref a0, .int x, .ref bo] ++ List.replicate (3 - (lg_sl [.ref a0, .int x, .ref bo]).length) Slot.unset).toArray = ls at hl ⊢
  generalize hag : ([.ref a0, .int x, .ref bo] : List Value).toArray = args at hts hQ ⊢
  have hl : lv_has ls 3 [(0, .ref a0), (1, .int x), (2, .ref bo)] := hl
  obtain ⟨H, hH⟩ : ∃ H : Heap, H = s.heap := ⟨_, rfl⟩
  rw [← hH] at hP
  rw [← hH]
  have hS : va_S A s.heap H [] := by rw [hH]; exact hS
  obtain ⟨locs, hlo⟩ : ∃ L : List Loc, L = [] := ⟨_, rfl⟩
  rw [← hlo] at hS
  rw [← hlo]
  clear hH hlo
  refine lv_iconst (v := 1) hx hb dX3_doSees_0 (by decide) ?_
  refine lv_aload_n hx hb dX3_doSees_1 rfl (lv_at hl 2 rfl) ?_
  have hPc := hP.sub (ws' := [(zo1iri bo mdc aEl (nI sz_)), (zaR aEl cEl 10 fEl)]) [0, 1] rfl
  have hDc := hD.sub (ws' := [(zo1iri bo mdc aEl (nI sz_)), (zaR aEl cEl 10 fEl)]) [0, 1] (by decide) rfl
  have hKc := hK.sub (tys' := [(cEl, .object "java/lang/Object")]) [0] rfl
  have hFc := va_free (wc := [(zo1iri bo mdc aEl (nI sz_)), (zaR aEl cEl 10 fEl)]) hD hS hA [0, 1] rfl
  refine va_callv (va_runS (As := [.int 1, .ref bo]) (rest := []) ⟨hx, hb, hml, hown, hts⟩ (c_begin1 l dC dI ad cB bS bo aEl 1 cEl fEl sz_ mdc tl H.size (by omega) (by omega) (zL)) (va_cwS 2 hts gX3_doSees_X3_begin rfl rfl rfl hd_yX3_begin.2 ⟨Nat.le_of_ble_eq_true rfl, Nat.le_of_ble_eq_true rfl⟩) ⟨fun a U g mk q => by obtain ⟨q0, q1, qP, qK, qD, qhI_⟩ := q; exact ⟨q0, mvz g mk a q1, mvP g mk a qP, mvK g mk a qK, qD, qhI_.mv g mk a⟩, fun U hU hW => ⟨rfl, by rw [hU], by rw [hU]; exact hPc, va_K.moved hW.alike hKc, hDc.weaken (fun _ _ _ _ => trivial), hI_.call hS hU hW (fun q h => hFc q h)⟩⟩ rfl rfl hl.1 rfl (lv_room (Nat.le_of_ble_eq_true rfl)) dX3_doSees_2 ⟨Nat.le_of_ble_eq_true rfl, Nat.le_of_ble_eq_true rfl⟩) hS (fun q _ h => hFc q h) hFc (fun u tC H1 locs htC hvm hw_2 hB hz1 hk1 hS => ?_)
  obtain ⟨mdc9_3, sz_9_4, fEl9_5⟩ := u
  try dsimp only at hw_2 hB
  obtain ⟨hP1, hK1, hD1⟩ := hB
  rw [htC] at hP1
  have hK1 := va_K.moved hvm.symm hK1
  obtain ⟨hP, hD⟩ := va_join (wr := []) (w1 := [(zo1iri bo mdc9_3 aEl (nI sz_9_4)), (zaR aEl cEl 10 fEl9_5)]) hP hD [0, 1] [] rfl rfl (by decide) (by decide) hk1 hFc hP1 hD1
  have hK := (hK.sub (tys' := []) [] rfl).app hK1
  generalize H1 = H at hP hS ⊢
  have hP : va_P (dC, dI) vwCl [(zo1iri bo mdc9_3 aEl (nI sz_9_4)), (zaR aEl cEl 10 fEl9_5)] H := hP
  have hD : va_D A [(zo1iri bo mdc9_3 aEl (nI sz_9_4)), (zaR aEl cEl 10 fEl9_5)] := hD
  have hK : va_K (dC, dI) vwCl [(cEl, .object "java/lang/Object")] s := hK
  obtain ⟨e_6, hL_7⟩ := hw_2
  obtain rfl := (e_6).symm
  refine lv_iload_n hx hb dX3_doSees_5 rfl (lv_at hl 1 rfl) ?_
  refine lv_aload_n hx hb dX3_doSees_6 rfl (lv_at hl 0 rfl) ?_
  refine va_get (D := (dC, dI)) (ci := 12) (v := .int (nI i0)) (C := RX10) (T := TX10) (N := 4) hx hb hts kc_X3_doSees_X10_1_1 hown hZ.2.1 (hZ.P hS) 0 rfl rfl 1 (by decide) (hts (.fieldLink RX3 15 "MistHeaps$Heap" "number" "I") kc_X3_doSees_X10_1_0) (fun _ h9 => h9) rfl dX3_doSees_7 ?_
  refine lv_iadd hx hb dX3_doSees_10 ?_
  rw [hQ]
  have hP9 := hP.sub (ws' := [(zo1iri bo mdc9_3 aEl (nI (sz_ + 1))), (zaR aEl cEl 10 fEl9_5)]) [0, 1] rfl
  have hD9 := hD.sub (ws' := [(zo1iri bo mdc9_3 aEl (nI (sz_ + 1))), (zaR aEl cEl 10 fEl9_5)]) [0, 1] (by decide) rfl
  have hK9 := hK.sub (tys' := [(cEl, .object "java/lang/Object")]) [0] rfl
  exact W.iret (v := x + (nI i0)) hx hb hr (fun tQ htQ hWQ => ⟨⟨(x + (nI i0)), (mdc9_3, (sz_ + 1), fEl9_5), rfl, ⟨rfl, by omega, by have h9 := hL_7; exact h9⟩, by rw [htQ]; exact hP9, va_K.moved hWQ.alike hK9, hD9⟩, hS.F htQ⟩) hS.2.2 dX3_doSees_11

theorem kc_X3_doSees_X10_0_0 : (.fieldLink RX3 15 "MistHeaps$Heap" "number" "I" : Cond) ∈ wsX3_doSees := kc_of 231 rfl rfl rfl
theorem kc_X3_doSees_X10_0_1 : ∀ w ∈ wsX100, w ∈ wsX3_doSees := fun w h => List.mem_cons_of_mem _ (gin_wsX100 w h)
set_option maxHeartbeats 4000000 in
set_option maxRecDepth 100000 in
theorem c_X3_doSees_X10_0 (l : Launch) (dC : Nat → ClassId) (dI : Nat → Nat → Nat) (ad : Nat → Nat) (cB bS : Nat)    (bo : Nat) (i0 : Nat) (sk : Int32) (sv : Int32) (scl : Int32) (x : Int32) (a0 : Nat) (mdc : Int32) (sz : Nat) : Met l yX3_doSees wsX3_doSees ({ frames := 6, cells := 1, slots := 10, locals := 122 } : Room) (va_Pc [.ref a0, .int x, .ref bo] (fun U => U.heap.size = sz ∧ va_P (dC, dI) vwCl [(zo1iri bo mdc bS 0)] U.heap ∧ va_K (dC, dI) vwCl [] U ∧ va_D (fun _ => True) [(zo1iri bo mdc bS 0)] ∧ Gi ad cB bS (va_A [(zo1iri bo mdc bS 0)] sz) U ∧ Gb (va_A [(zo1iri bo mdc bS 0)] sz) U ∧ Gw (va_A [(zo1iri bo mdc bS 0)] sz) U ∧ Fz dC dI [(zo12iiii a0 sk (nI i0) sv scl)] [] (va_A [(zo1iri bo mdc bS 0)] sz) U)) (va_Qi (fun (r : Int32) (u : (Int32) × (Nat) × (ClassId) × (Nat) × (Nat → Option Nat)) => match u with | (mdc9, aEl9, cEl9, sz_9, fEl9) => r = x + nI i0 ∧ sz_9 = 1 ∧ okL ad fEl9 sz_9 [1]) (fun (u : (Int32) × (Nat) × (ClassId) × (Nat) × (Nat → Option Nat)) (t : State) => match u with | (mdc9, aEl9, cEl9, sz_9, fEl9) => va_P (dC, dI) vwCl [(zo1iri bo mdc9 aEl9 (nI sz_9)), (zaR aEl9 cEl9 10 fEl9)] t.heap ∧ va_K (dC, dI) vwCl [(cEl9, .object "java/lang/Object")] t ∧ va_D (va_A [(zo1iri bo mdc bS 0)] sz) [(zo1iri bo mdc9 aEl9 (nI sz_9)), (zaR aEl9 cEl9 10 fEl9)]) (va_A [(zo1iri bo mdc bS 0)] sz)) 1 10 (va_A [(zo1iri bo mdc bS 0)] sz) := by
  refine met_ofQ (cc := cX3_doSees) (maxL := 3) (ret := (some .int)) (by decide) rfl ?_
  intro p e s m args below meth c s₁ Q B hml hv hQ
  obtain ⟨rfl, hsz, hP, hK, hD0, hI_, hB_, hW_, hZ⟩ := hv
  have hx := B.exec
  have hb := B.bytes
  have hr := B.returns
  have hts := atoms_spec (ws := wsX3_doSees) B.pre
  have hown : s.vm.findClass RX3 = some m.cls := findClass_of_methodNamed B.named
  have hlocks := B.notSynchronized
  subst hsz
  have hD := hD0.self (sz := s.heap.size)
  generalize hAe : va_A [(zo1iri bo mdc bS 0)] s.heap.size = A at hD hQ hI_ hB_ hW_ hZ ⊢
  have hA : ∀ q : Nat, s.heap.size ≤ q → A q := fun q h => by rw [← hAe]; exact Or.inr h
  have hS : va_S A s.heap s.heap [] := va_S.rf
  have hl := lv_entry [.ref a0, .int x, .ref bo] (n := 3) (Nat.le_of_ble_eq_true rfl)
  rw [lg_entry_eq]
  generalize (lg_sl [.ref a0, .int x, .ref bo] ++ List.replicate (3 - (lg_sl [.ref a0, .int x, .ref bo]).length) Slot.unset).toArray = ls at hl ⊢
  generalize hag : ([.ref a0, .int x, .ref bo] : List Value).toArray = args at hts hQ ⊢
  have hl : lv_has ls 3 [(0, .ref a0), (1, .int x), (2, .ref bo)] := hl
  obtain ⟨H, hH⟩ : ∃ H : Heap, H = s.heap := ⟨_, rfl⟩
  rw [← hH] at hP
  rw [← hH]
  have hS : va_S A s.heap H [] := by rw [hH]; exact hS
  obtain ⟨locs, hlo⟩ : ∃ L : List Loc, L = [] := ⟨_, rfl⟩
  rw [← hlo] at hS
  rw [← hlo]
  clear hH hlo
  refine lv_iconst (v := 1) hx hb dX3_doSees_0 (by decide) ?_
  refine lv_aload_n hx hb dX3_doSees_1 rfl (lv_at hl 2 rfl) ?_
  have hPc := hP.sub (ws' := [(zo1iri bo mdc bS 0)]) [0] rfl
  have hDc := hD.sub (ws' := [(zo1iri bo mdc bS 0)]) [0] (by decide) rfl
  have hKc := hK.sub (tys' := []) [] rfl
  have hFc := va_free (wc := [(zo1iri bo mdc bS 0)]) hD hS hA [0] rfl
  refine va_callv (va_runS (As := [.int 1, .ref bo]) (rest := []) ⟨hx, hb, hml, hown, hts⟩ (c_begin0 l dC dI ad cB bS bo mdc 1 H.size (by omega)) (va_cwS 2 hts gX3_doSees_X3_begin rfl rfl rfl hd_yX3_begin.2 ⟨Nat.le_of_ble_eq_true rfl, Nat.le_of_ble_eq_true rfl⟩) ⟨fun a U g mk q => by obtain ⟨q0, q1, qP, qK, qD, qhI_⟩ := q; exact ⟨q0, mvz g mk a q1, mvP g mk a qP, mvK g mk a qK, qD, qhI_.mv g mk a⟩, fun U hU hW => ⟨rfl, by rw [hU], by rw [hU]; exact hPc, va_K.moved hW.alike hKc, hDc.weaken (fun _ _ _ _ => trivial), hI_.call hS hU hW (fun q h => hFc q h)⟩⟩ rfl rfl hl.1 rfl (lv_room (Nat.le_of_ble_eq_true rfl)) dX3_doSees_2 ⟨Nat.le_of_ble_eq_true rfl, Nat.le_of_ble_eq_true rfl⟩) hS (fun q _ h => hFc q h) hFc (fun u tC H1 locs htC hvm hw_2 hB hz1 hk1 hS => ?_)
  obtain ⟨mdc9_3, aEl9_4, cEl9_5, sz_9_6, fEl9_7⟩ := u
  try dsimp only at hw_2 hB
  obtain ⟨hP1, hK1, hD1⟩ := hB
  rw [htC] at hP1
  have hK1 := va_K.moved hvm.symm hK1
  obtain ⟨hP, hD⟩ := va_join (wr := []) (w1 := [(zo1iri bo mdc9_3 aEl9_4 (nI sz_9_6)), (zaR aEl9_4 cEl9_5 10 fEl9_7)]) hP hD [0] [] rfl rfl (by decide) (by decide) hk1 hFc hP1 hD1
  have hK := (hK.sub (tys' := []) [] rfl).app hK1
  generalize H1 = H at hP hS ⊢
  have hP : va_P (dC, dI) vwCl [(zo1iri bo mdc9_3 aEl9_4 (nI sz_9_6)), (zaR aEl9_4 cEl9_5 10 fEl9_7)] H := hP
  have hD : va_D A [(zo1iri bo mdc9_3 aEl9_4 (nI sz_9_6)), (zaR aEl9_4 cEl9_5 10 fEl9_7)] := hD
  have hK : va_K (dC, dI) vwCl [(cEl9_5, .object "java/lang/Object")] s := hK
  refine W.widen (k := 1) (n := 10) (by omega) (by omega) ?_
  obtain ⟨e_8, hL_9⟩ := hw_2
  obtain rfl := (e_8).symm
  refine lv_iload_n hx hb dX3_doSees_5 rfl (lv_at hl 1 rfl) ?_
  refine lv_aload_n hx hb dX3_doSees_6 rfl (lv_at hl 0 rfl) ?_
  refine va_get (D := (dC, dI)) (ci := 12) (v := .int (nI i0)) (C := RX10) (T := TX10) (N := 4) hx hb hts kc_X3_doSees_X10_0_1 hown hZ.2.1 (hZ.P hS) 0 rfl rfl 1 (by decide) (hts (.fieldLink RX3 15 "MistHeaps$Heap" "number" "I") kc_X3_doSees_X10_0_0) (fun _ h9 => h9) rfl dX3_doSees_7 ?_
  refine lv_iadd hx hb dX3_doSees_10 ?_
  rw [hQ]
  have hP9 := hP.sub (ws' := [(zo1iri bo mdc9_3 aEl9_4 (nI 1)), (zaR aEl9_4 cEl9_5 10 fEl9_7)]) [0, 1] rfl
  have hD9 := hD.sub (ws' := [(zo1iri bo mdc9_3 aEl9_4 (nI 1)), (zaR aEl9_4 cEl9_5 10 fEl9_7)]) [0, 1] (by decide) rfl
  have hK9 := hK.sub (tys' := [(cEl9_5, .object "java/lang/Object")]) [0] rfl
  refine W.widen (k := 1) (n := 10) (by omega) (by omega) ?_
  exact W.iret (v := x + (nI i0)) hx hb hr (fun tQ htQ hWQ => ⟨⟨(x + (nI i0)), (mdc9_3, aEl9_4, cEl9_5, 1, fEl9_7), rfl, ⟨rfl, by omega, hL_9⟩, by rw [htQ]; exact hP9, va_K.moved hWQ.alike hK9, hD9⟩, hS.F htQ⟩) hS.2.2 dX3_doSees_11

set_option maxHeartbeats 4000000 in
set_option maxRecDepth 100000 in
theorem c_X4_doSees_X10_1 (l : Launch) (dC : Nat → ClassId) (dI : Nat → Nat → Nat) (ad : Nat → Nat) (cB bS : Nat)    (bo : Nat) (aEl : Nat) (i0 : Nat) (sk : Int32) (sv : Int32) (scl : Int32) (x : Int32) (cEl : ClassId) (fEl : Nat → Option Nat) (a0 : Nat) (sz_ : Nat) (mdc : Int32) (tl : List Nat) (sz : Nat) (hsz : sz_ + 2 ≤ 10) (zL : okL ad fEl sz_ tl) : Met l yX4_doSees wsX4_doSees ({ frames := 4, cells := 0, slots := 0, locals := 87 } : Room) (va_Pc [.ref a0, .int x, .ref bo] (fun U => U.heap.size = sz ∧ va_P (dC, dI) vwCl [(zo1iri bo mdc aEl (nI sz_)), (zaR aEl cEl 10 fEl)] U.heap ∧ va_K (dC, dI) vwCl [(cEl, .object "java/lang/Object")] U ∧ va_D (fun _ => True) [(zo1iri bo mdc aEl (nI sz_)), (zaR aEl cEl 10 fEl)] ∧ Gi ad cB bS (va_A [(zo1iri bo mdc aEl (nI sz_)), (zaR aEl cEl 10 fEl)] sz) U ∧ Gb (va_A [(zo1iri bo mdc aEl (nI sz_)), (zaR aEl cEl 10 fEl)] sz) U ∧ Gw (va_A [(zo1iri bo mdc aEl (nI sz_)), (zaR aEl cEl 10 fEl)] sz) U ∧ Fz dC dI [(zo12iiii a0 sk (nI i0) sv scl)] [] (va_A [(zo1iri bo mdc aEl (nI sz_)), (zaR aEl cEl 10 fEl)] sz) U)) (va_Qi (fun (r : Int32) (u : (Int32) × (Nat) × (Nat → Option Nat)) => match u with | (mdc9, sz_9, fEl9) => r = x * 3 + nI i0 ∧ sz_9 = sz_ + 2 ∧ okL ad fEl9 sz_9 (tl ++ [11, 1])) (fun (u : (Int32) × (Nat) × (Nat → Option Nat)) (t : State) => match u with | (mdc9, sz_9, fEl9) => va_P (dC, dI) vwCl [(zo1iri bo mdc9 aEl (nI sz_9)), (zaR aEl cEl 10 fEl9)] t.heap ∧ va_K (dC, dI) vwCl [(cEl, .object "java/lang/Object")] t ∧ va_D (va_A [(zo1iri bo mdc aEl (nI sz_)), (zaR aEl cEl 10 fEl)] sz) [(zo1iri bo mdc9 aEl (nI sz_9)), (zaR aEl cEl 10 fEl9)]) (va_A [(zo1iri bo mdc aEl (nI sz_)), (zaR aEl cEl 10 fEl)] sz)) 0 0 (va_A [(zo1iri bo mdc aEl (nI sz_)), (zaR aEl cEl 10 fEl)] sz) := by
  refine met_ofQ (cc := cX4_doSees) (maxL := 3) (ret := (some .int)) (by decide) rfl ?_
  intro p e s m args below meth c s₁ Q B hml hv hQ
  obtain ⟨rfl, hsz, hP, hK, hD0, hI_, hB_, hW_, hZ⟩ := hv
  have hx := B.exec
  have hb := B.bytes
  have hr := B.returns
  have hts := atoms_spec (ws := wsX4_doSees) B.pre
  have hown : s.vm.findClass RX4 = some m.cls := findClass_of_methodNamed B.named
  have hlocks := B.notSynchronized
  subst hsz
  have hD := hD0.self (sz := s.heap.size)
  generalize hAe : va_A [(zo1iri bo mdc aEl (nI sz_)), (zaR aEl cEl 10 fEl)] s.heap.size = A at hD hQ hI_ hB_ hW_ hZ ⊢
  have hA : ∀ q : Nat, s.heap.size ≤ q → A q := fun q h => by rw [← hAe]; exact Or.inr h
  have hS : va_S A s.heap s.heap [] := va_S.rf
  have hl := lv_entry [.ref a0, .int x, .ref bo] (n := 3) (Nat.le_of_ble_eq_true rfl)
  rw [lg_entry_eq]
  generalize (lg_sl [.ref a0, .int x, .ref bo] ++ List.replicate (3 - (lg_sl [.ref a0, .int x, .ref bo]).length) Slot.unset).toArray = ls at hl ⊢
  generalize hag : ([.ref a0, .int x, .ref bo] : List Value).toArray = args at hts hQ ⊢
  have hl : lv_has ls 3 [(0, .ref a0), (1, .int x), (2, .ref bo)] := hl
  obtain ⟨H, hH⟩ : ∃ H : Heap, H = s.heap := ⟨_, rfl⟩
  rw [← hH] at hP
  rw [← hH]
  have hS : va_S A s.heap H [] := by rw [hH]; exact hS
  obtain ⟨locs, hlo⟩ : ∃ L : List Loc, L = [] := ⟨_, rfl⟩
  rw [← hlo] at hS
  rw [← hlo]
  clear hH hlo
  refine lv_bipush (v := 11) hx hb dX4_doSees_0 (by decide) ?_
  refine lv_aload_n hx hb dX4_doSees_2 rfl (lv_at hl 2 rfl) ?_
  have hPc := hP.sub (ws' := [(zo1iri bo mdc aEl (nI sz_)), (zaR aEl cEl 10 fEl)]) [0, 1] rfl
  have hDc := hD.sub (ws' := [(zo1iri bo mdc aEl (nI sz_)), (zaR aEl cEl 10 fEl)]) [0, 1] (by decide) rfl
  have hKc := hK.sub (tys' := [(cEl, .object "java/lang/Object")]) [0] rfl
  have hFc := va_free (wc := [(zo1iri bo mdc aEl (nI sz_)), (zaR aEl cEl 10 fEl)]) hD hS hA [0, 1] rfl
  refine va_callv (va_runU2 (As := [.int 11, .ref bo]) (rest := []) ⟨hx, hb, hml, hown, hts⟩ (c_begin1 l dC dI ad cB bS bo aEl 11 cEl fEl sz_ mdc tl H.size (by omega) (by omega) (zL)) (u2_cw (x := xb4) 2 hB_ inb4 rfl rfl rfl rfl rfl (by decide +kernel) ⟨Nat.le_of_ble_eq_true rfl, Nat.le_of_ble_eq_true rfl⟩) ⟨fun a U g mk q => by obtain ⟨q0, q1, qP, qK, qD, qhI_⟩ := q; exact ⟨q0, mvz g mk a q1, mvP g mk a qP, mvK g mk a qK, qD, qhI_.mv g mk a⟩, fun U hU hW => ⟨rfl, by rw [hU], by rw [hU]; exact hPc, va_K.moved hW.alike hKc, hDc.weaken (fun _ _ _ _ => trivial), hI_.call hS hU hW (fun q h => hFc q h)⟩⟩ rfl rfl hl.1 rfl (lv_room (Nat.le_of_ble_eq_true rfl)) dX4_doSees_3 ⟨Nat.le_of_ble_eq_true rfl, Nat.le_of_ble_eq_true rfl⟩) hS (fun q _ h => hFc q h) hFc (fun u tC H1 locs htC hvm hw_2 hB hz1 hk1 hS => ?_)
  obtain ⟨mdc9_3, sz_9_4, fEl9_5⟩ := u
  try dsimp only at hw_2 hB
  obtain ⟨hP1, hK1, hD1⟩ := hB
  rw [htC] at hP1
  have hK1 := va_K.moved hvm.symm hK1
  obtain ⟨hP, hD⟩ := va_join (wr := []) (w1 := [(zo1iri bo mdc9_3 aEl (nI sz_9_4)), (zaR aEl cEl 10 fEl9_5)]) hP hD [0, 1] [] rfl rfl (by decide) (by decide) hk1 hFc hP1 hD1
  have hK := (hK.sub (tys' := []) [] rfl).app hK1
  generalize H1 = H at hP hS ⊢
  have hP : va_P (dC, dI) vwCl [(zo1iri bo mdc9_3 aEl (nI sz_9_4)), (zaR aEl cEl 10 fEl9_5)] H := hP
  have hD : va_D A [(zo1iri bo mdc9_3 aEl (nI sz_9_4)), (zaR aEl cEl 10 fEl9_5)] := hD
  have hK : va_K (dC, dI) vwCl [(cEl, .object "java/lang/Object")] s := hK
  obtain ⟨e_6, hL_7⟩ := hw_2
  obtain rfl := (e_6).symm
  refine lv_aload_n hx hb dX4_doSees_6 rfl (lv_at hl 0 rfl) ?_
  refine lv_iload_n hx hb dX4_doSees_7 rfl (lv_at hl 1 rfl) ?_
  refine lv_iconst (v := 3) hx hb dX4_doSees_8 (by decide) ?_
  refine lv_imul hx hb dX4_doSees_9 ?_
  refine lv_aload_n hx hb dX4_doSees_10 rfl (lv_at hl 2 rfl) ?_
  have hPc := hP.sub (ws' := [(zo1iri bo mdc9_3 aEl (nI (sz_ + 1))), (zaR aEl cEl 10 fEl9_5)]) [0, 1] rfl
  have hDc := hD.sub (ws' := [(zo1iri bo mdc9_3 aEl (nI (sz_ + 1))), (zaR aEl cEl 10 fEl9_5)]) [0, 1] (by decide) rfl
  have hKc := hK.sub (tys' := [(cEl, .object "java/lang/Object")]) [0] rfl
  have hFc := va_free (wc := [(zo1iri bo mdc9_3 aEl (nI (sz_ + 1))), (zaR aEl cEl 10 fEl9_5)]) hD hS hA [0, 1] rfl
  refine va_calli (va_runSU (hZ.2.1.1 12 (RX10, TX10, 4) rfl).2 (As := [.int (x * 3), .ref bo]) (rest := []) ⟨hx, hb, hml, hown, hts⟩ (c_X3_doSees_X10_1 l dC dI ad cB bS    bo aEl i0 sk sv scl (x * 3) cEl fEl9_5 a0 (sz_ + 1) mdc9_3 (tl ++ [11]) H.size (by omega) (hL_7)) (va_cwSU 2 hts gX4_doSees_X3_doSees_s21 rfl rfl rfl (by decide +kernel) ⟨Nat.le_of_ble_eq_true rfl, Nat.le_of_ble_eq_true rfl⟩) ⟨fun a U g mk q => by obtain ⟨q0, q1, qP, qK, qD, qhI_, qhB_, qhW_, qhZ⟩ := q; exact ⟨q0, mvz g mk a q1, mvP g mk a qP, mvK g mk a qK, qD, qhI_.mv g mk a, qhB_.mv g mk a, qhW_.mv g mk a, qhZ.mv g mk a⟩, va_recv hZ.2.1 (hZ.P hS) (ci := 12) (q := (RX10, TX10, 4)) (q0 := 0) rfl rfl, fun U hU hW => ⟨rfl, by rw [hU], by rw [hU]; exact hPc, va_K.moved hW.alike hKc, hDc.weaken (fun _ _ _ _ => trivial), hI_.call hS hU hW (fun q h => hFc q h), hB_.call hS hU hW (fun q h => hFc q h), hW_.call hS hU hW (fun q h => hFc q h), (hZ.sub [0] [] rfl rfl).call hS hU hW (fun q h => hFc q h)⟩⟩ rfl rfl hl.1 rfl (lv_room (Nat.le_of_ble_eq_true rfl)) dX4_doSees_11 ⟨Nat.le_of_ble_eq_true rfl, Nat.le_of_ble_eq_true rfl⟩) hS (fun q _ h => hFc q h) hFc (fun r_8 u tC H1 locs htC hvm hw_9 hB hz1 hk1 hS => ?_)
  obtain ⟨mdc9_10, sz_9_11, fEl9_12⟩ := u
  try dsimp only at hw_9 hB
  obtain ⟨hP1, hK1, hD1⟩ := hB
  rw [htC] at hP1
  have hK1 := va_K.moved hvm.symm hK1
  obtain ⟨hP, hD⟩ := va_join (wr := []) (w1 := [(zo1iri bo mdc9_10 aEl (nI sz_9_11)), (zaR aEl cEl 10 fEl9_12)]) hP hD [0, 1] [] rfl rfl (by decide) (by decide) hk1 hFc hP1 hD1
  have hK := (hK.sub (tys' := []) [] rfl).app hK1
  generalize H1 = H at hP hS ⊢
  have hP : va_P (dC, dI) vwCl [(zo1iri bo mdc9_10 aEl (nI sz_9_11)), (zaR aEl cEl 10 fEl9_12)] H := hP
  have hD : va_D A [(zo1iri bo mdc9_10 aEl (nI sz_9_11)), (zaR aEl cEl 10 fEl9_12)] := hD
  have hK : va_K (dC, dI) vwCl [(cEl, .object "java/lang/Object")] s := hK
  obtain ⟨er_13, e_14, hL_15⟩ := hw_9
  obtain rfl := (e_14).symm
  subst er_13
  rw [hQ]
  have hP9 := hP.sub (ws' := [(zo1iri bo mdc9_10 aEl (nI ((sz_ + 1) + 1))), (zaR aEl cEl 10 fEl9_12)]) [0, 1] rfl
  have hD9 := hD.sub (ws' := [(zo1iri bo mdc9_10 aEl (nI ((sz_ + 1) + 1))), (zaR aEl cEl 10 fEl9_12)]) [0, 1] (by decide) rfl
  have hK9 := hK.sub (tys' := [(cEl, .object "java/lang/Object")]) [0] rfl
  exact W.iret (v := (x * 3) + nI i0) hx hb hr (fun tQ htQ hWQ => ⟨⟨((x * 3) + nI i0), (mdc9_10, ((sz_ + 1) + 1), fEl9_12), rfl, ⟨rfl, by omega, by have h9 := okL_as (hL_15); exact h9⟩, by rw [htQ]; exact hP9, va_K.moved hWQ.alike hK9, hD9⟩, hS.F htQ⟩) hS.2.2 dX4_doSees_14

set_option maxHeartbeats 4000000 in
set_option maxRecDepth 100000 in
theorem c_X4_doSees_X10_0 (l : Launch) (dC : Nat → ClassId) (dI : Nat → Nat → Nat) (ad : Nat → Nat) (cB bS : Nat)    (bo : Nat) (i0 : Nat) (sk : Int32) (sv : Int32) (scl : Int32) (x : Int32) (a0 : Nat) (mdc : Int32) (sz : Nat) : Met l yX4_doSees wsX4_doSees ({ frames := 6, cells := 1, slots := 10, locals := 122 } : Room) (va_Pc [.ref a0, .int x, .ref bo] (fun U => U.heap.size = sz ∧ va_P (dC, dI) vwCl [(zo1iri bo mdc bS 0)] U.heap ∧ va_K (dC, dI) vwCl [] U ∧ va_D (fun _ => True) [(zo1iri bo mdc bS 0)] ∧ Gi ad cB bS (va_A [(zo1iri bo mdc bS 0)] sz) U ∧ Gb (va_A [(zo1iri bo mdc bS 0)] sz) U ∧ Gw (va_A [(zo1iri bo mdc bS 0)] sz) U ∧ Fz dC dI [(zo12iiii a0 sk (nI i0) sv scl)] [] (va_A [(zo1iri bo mdc bS 0)] sz) U)) (va_Qi (fun (r : Int32) (u : (Int32) × (Nat) × (ClassId) × (Nat) × (Nat → Option Nat)) => match u with | (mdc9, aEl9, cEl9, sz_9, fEl9) => r = x * 3 + nI i0 ∧ sz_9 = 2 ∧ okL ad fEl9 sz_9 [11, 1]) (fun (u : (Int32) × (Nat) × (ClassId) × (Nat) × (Nat → Option Nat)) (t : State) => match u with | (mdc9, aEl9, cEl9, sz_9, fEl9) => va_P (dC, dI) vwCl [(zo1iri bo mdc9 aEl9 (nI sz_9)), (zaR aEl9 cEl9 10 fEl9)] t.heap ∧ va_K (dC, dI) vwCl [(cEl9, .object "java/lang/Object")] t ∧ va_D (va_A [(zo1iri bo mdc bS 0)] sz) [(zo1iri bo mdc9 aEl9 (nI sz_9)), (zaR aEl9 cEl9 10 fEl9)]) (va_A [(zo1iri bo mdc bS 0)] sz)) 1 10 (va_A [(zo1iri bo mdc bS 0)] sz) := by
  refine met_ofQ (cc := cX4_doSees) (maxL := 3) (ret := (some .int)) (by decide) rfl ?_
  intro p e s m args below meth c s₁ Q B hml hv hQ
  obtain ⟨rfl, hsz, hP, hK, hD0, hI_, hB_, hW_, hZ⟩ := hv
  have hx := B.exec
  have hb := B.bytes
  have hr := B.returns
  have hts := atoms_spec (ws := wsX4_doSees) B.pre
  have hown : s.vm.findClass RX4 = some m.cls := findClass_of_methodNamed B.named
  have hlocks := B.notSynchronized
  subst hsz
  have hD := hD0.self (sz := s.heap.size)
  generalize hAe : va_A [(zo1iri bo mdc bS 0)] s.heap.size = A at hD hQ hI_ hB_ hW_ hZ ⊢
  have hA : ∀ q : Nat, s.heap.size ≤ q → A q := fun q h => by rw [← hAe]; exact Or.inr h
  have hS : va_S A s.heap s.heap [] := va_S.rf
  have hl := lv_entry [.ref a0, .int x, .ref bo] (n := 3) (Nat.le_of_ble_eq_true rfl)
  rw [lg_entry_eq]
  generalize (lg_sl [.ref a0, .int x, .ref bo] ++ List.replicate (3 - (lg_sl [.ref a0, .int x, .ref bo]).length) Slot.unset).toArray = ls at hl ⊢
  generalize hag : ([.ref a0, .int x, .ref bo] : List Value).toArray = args at hts hQ ⊢
  have hl : lv_has ls 3 [(0, .ref a0), (1, .int x), (2, .ref bo)] := hl
  obtain ⟨H, hH⟩ : ∃ H : Heap, H = s.heap := ⟨_, rfl⟩
  rw [← hH] at hP
  rw [← hH]
  have hS : va_S A s.heap H [] := by rw [hH]; exact hS
  obtain ⟨locs, hlo⟩ : ∃ L : List Loc, L = [] := ⟨_, rfl⟩
  rw [← hlo] at hS
  rw [← hlo]
  clear hH hlo
  refine lv_bipush (v := 11) hx hb dX4_doSees_0 (by decide) ?_
  refine lv_aload_n hx hb dX4_doSees_2 rfl (lv_at hl 2 rfl) ?_
  have hPc := hP.sub (ws' := [(zo1iri bo mdc bS 0)]) [0] rfl
  have hDc := hD.sub (ws' := [(zo1iri bo mdc bS 0)]) [0] (by decide) rfl
  have hKc := hK.sub (tys' := []) [] rfl
  have hFc := va_free (wc := [(zo1iri bo mdc bS 0)]) hD hS hA [0] rfl
  refine va_callv (va_runU2 (As := [.int 11, .ref bo]) (rest := []) ⟨hx, hb, hml, hown, hts⟩ (c_begin0 l dC dI ad cB bS bo mdc 11 H.size (by omega)) (u2_cw (x := xb4) 2 hB_ inb4 rfl rfl rfl rfl rfl (by decide +kernel) ⟨Nat.le_of_ble_eq_true rfl, Nat.le_of_ble_eq_true rfl⟩) ⟨fun a U g mk q => by obtain ⟨q0, q1, qP, qK, qD, qhI_⟩ := q; exact ⟨q0, mvz g mk a q1, mvP g mk a qP, mvK g mk a qK, qD, qhI_.mv g mk a⟩, fun U hU hW => ⟨rfl, by rw [hU], by rw [hU]; exact hPc, va_K.moved hW.alike hKc, hDc.weaken (fun _ _ _ _ => trivial), hI_.call hS hU hW (fun q h => hFc q h)⟩⟩ rfl rfl hl.1 rfl (lv_room (Nat.le_of_ble_eq_true rfl)) dX4_doSees_3 ⟨Nat.le_of_ble_eq_true rfl, Nat.le_of_ble_eq_true rfl⟩) hS (fun q _ h => hFc q h) hFc (fun u tC H1 locs htC hvm hw_2 hB hz1 hk1 hS => ?_)
  obtain ⟨mdc9_3, aEl9_4, cEl9_5, sz_9_6, fEl9_7⟩ := u
  try dsimp only at hw_2 hB
  obtain ⟨hP1, hK1, hD1⟩ := hB
  rw [htC] at hP1
  have hK1 := va_K.moved hvm.symm hK1
  obtain ⟨hP, hD⟩ := va_join (wr := []) (w1 := [(zo1iri bo mdc9_3 aEl9_4 (nI sz_9_6)), (zaR aEl9_4 cEl9_5 10 fEl9_7)]) hP hD [0] [] rfl rfl (by decide) (by decide) hk1 hFc hP1 hD1
  have hK := (hK.sub (tys' := []) [] rfl).app hK1
  generalize H1 = H at hP hS ⊢
  have hP : va_P (dC, dI) vwCl [(zo1iri bo mdc9_3 aEl9_4 (nI sz_9_6)), (zaR aEl9_4 cEl9_5 10 fEl9_7)] H := hP
  have hD : va_D A [(zo1iri bo mdc9_3 aEl9_4 (nI sz_9_6)), (zaR aEl9_4 cEl9_5 10 fEl9_7)] := hD
  have hK : va_K (dC, dI) vwCl [(cEl9_5, .object "java/lang/Object")] s := hK
  refine W.widen (k := 1) (n := 10) (by omega) (by omega) ?_
  obtain ⟨e_8, hL_9⟩ := hw_2
  obtain rfl := (e_8).symm
  refine lv_aload_n hx hb dX4_doSees_6 rfl (lv_at hl 0 rfl) ?_
  refine lv_iload_n hx hb dX4_doSees_7 rfl (lv_at hl 1 rfl) ?_
  refine lv_iconst (v := 3) hx hb dX4_doSees_8 (by decide) ?_
  refine lv_imul hx hb dX4_doSees_9 ?_
  refine lv_aload_n hx hb dX4_doSees_10 rfl (lv_at hl 2 rfl) ?_
  have hPc := hP.sub (ws' := [(zo1iri bo mdc9_3 aEl9_4 (nI 1)), (zaR aEl9_4 cEl9_5 10 fEl9_7)]) [0, 1] rfl
  have hDc := hD.sub (ws' := [(zo1iri bo mdc9_3 aEl9_4 (nI 1)), (zaR aEl9_4 cEl9_5 10 fEl9_7)]) [0, 1] (by decide) rfl
  have hKc := hK.sub (tys' := [(cEl9_5, .object "java/lang/Object")]) [0] rfl
  have hFc := va_free (wc := [(zo1iri bo mdc9_3 aEl9_4 (nI 1)), (zaR aEl9_4 cEl9_5 10 fEl9_7)]) hD hS hA [0, 1] rfl
  refine va_calli (va_runSU (hZ.2.1.1 12 (RX10, TX10, 4) rfl).2 (As := [.int (x * 3), .ref bo]) (rest := []) ⟨hx, hb, hml, hown, hts⟩ (c_X3_doSees_X10_1 l dC dI ad cB bS    bo aEl9_4 i0 sk sv scl (x * 3) cEl9_5 fEl9_7 a0 1 mdc9_3 ([11]) H.size (by omega) (hL_9)) (va_cwSU 2 hts gX4_doSees_X3_doSees_s21 rfl rfl rfl (by decide +kernel) ⟨Nat.le_of_ble_eq_true rfl, Nat.le_of_ble_eq_true rfl⟩) ⟨fun a U g mk q => by obtain ⟨q0, q1, qP, qK, qD, qhI_, qhB_, qhW_, qhZ⟩ := q; exact ⟨q0, mvz g mk a q1, mvP g mk a qP, mvK g mk a qK, qD, qhI_.mv g mk a, qhB_.mv g mk a, qhW_.mv g mk a, qhZ.mv g mk a⟩, va_recv hZ.2.1 (hZ.P hS) (ci := 12) (q := (RX10, TX10, 4)) (q0 := 0) rfl rfl, fun U hU hW => ⟨rfl, by rw [hU], by rw [hU]; exact hPc, va_K.moved hW.alike hKc, hDc.weaken (fun _ _ _ _ => trivial), hI_.call hS hU hW (fun q h => hFc q h), hB_.call hS hU hW (fun q h => hFc q h), hW_.call hS hU hW (fun q h => hFc q h), (hZ.sub [0] [] rfl rfl).call hS hU hW (fun q h => hFc q h)⟩⟩ rfl rfl hl.1 rfl (lv_room (Nat.le_of_ble_eq_true rfl)) dX4_doSees_11 ⟨Nat.le_of_ble_eq_true rfl, Nat.le_of_ble_eq_true rfl⟩) hS (fun q _ h => hFc q h) hFc (fun r_10 u tC H1 locs htC hvm hw_11 hB hz1 hk1 hS => ?_)
  obtain ⟨mdc9_12, sz_9_13, fEl9_14⟩ := u
  try dsimp only at hw_11 hB
  obtain ⟨hP1, hK1, hD1⟩ := hB
  rw [htC] at hP1
  have hK1 := va_K.moved hvm.symm hK1
  obtain ⟨hP, hD⟩ := va_join (wr := []) (w1 := [(zo1iri bo mdc9_12 aEl9_4 (nI sz_9_13)), (zaR aEl9_4 cEl9_5 10 fEl9_14)]) hP hD [0, 1] [] rfl rfl (by decide) (by decide) hk1 hFc hP1 hD1
  have hK := (hK.sub (tys' := []) [] rfl).app hK1
  generalize H1 = H at hP hS ⊢
  have hP : va_P (dC, dI) vwCl [(zo1iri bo mdc9_12 aEl9_4 (nI sz_9_13)), (zaR aEl9_4 cEl9_5 10 fEl9_14)] H := hP
  have hD : va_D A [(zo1iri bo mdc9_12 aEl9_4 (nI sz_9_13)), (zaR aEl9_4 cEl9_5 10 fEl9_14)] := hD
  have hK : va_K (dC, dI) vwCl [(cEl9_5, .object "java/lang/Object")] s := hK
  obtain ⟨er_15, e_16, hL_17⟩ := hw_11
  obtain rfl := (e_16).symm
  subst er_15
  rw [hQ]
  have hP9 := hP.sub (ws' := [(zo1iri bo mdc9_12 aEl9_4 (nI (1 + 1))), (zaR aEl9_4 cEl9_5 10 fEl9_14)]) [0, 1] rfl
  have hD9 := hD.sub (ws' := [(zo1iri bo mdc9_12 aEl9_4 (nI (1 + 1))), (zaR aEl9_4 cEl9_5 10 fEl9_14)]) [0, 1] (by decide) rfl
  have hK9 := hK.sub (tys' := [(cEl9_5, .object "java/lang/Object")]) [0] rfl
  refine W.widen (k := 1) (n := 10) (by omega) (by omega) ?_
  exact W.iret (v := (x * 3) + nI i0) hx hb hr (fun tQ htQ hWQ => ⟨⟨((x * 3) + nI i0), (mdc9_12, aEl9_4, cEl9_5, (1 + 1), fEl9_14), rfl, ⟨rfl, by omega, hL_17⟩, by rw [htQ]; exact hP9, va_K.moved hWQ.alike hK9, hD9⟩, hS.F htQ⟩) hS.2.2 dX4_doSees_14

theorem kc_X3_doGoes_X10_1_0 : (.code yX3_doSees cX3_doSees 3 (some .int) : Cond) ∈ wsX3_doGoes := kc_of 1025 rfl rfl rfl
theorem kc_X3_doGoes_X10_1_1 : (.fieldLink RX3 18 "MistHeaps$Heap" "v" "I" : Cond) ∈ wsX3_doGoes := kc_of 236 rfl rfl rfl
theorem kc_X3_doGoes_X10_1_2 : ∀ w ∈ wsX100, w ∈ wsX3_doGoes := fun w h => List.mem_cons_of_mem _ (gin_wsX100 w h)
set_option maxHeartbeats 4000000 in
set_option maxRecDepth 100000 in
theorem c_X3_doGoes_X10_1 (l : Launch) (dC : Nat → ClassId) (dI : Nat → Nat → Nat) (ad : Nat → Nat) (cB bS : Nat)    (bo : Nat) (aEl : Nat) (i0 : Nat) (sk : Int32) (sv : Int32) (scl : Int32) (x : Int32) (cEl : ClassId) (fEl : Nat → Option Nat) (a0 : Nat) (sz_ : Nat) (mdc : Int32) (tl : List Nat) (sz : Nat) (hsz : sz_ + 3 ≤ 10) (zL : okL ad fEl sz_ tl) : Met l yX3_doGoes wsX3_doGoes ({ frames := 5, cells := 0, slots := 0, locals := 109 } : Room) (va_Pc [.ref a0, .int x, .ref bo] (fun U => U.heap.size = sz ∧ va_P (dC, dI) vwCl [(zo1iri bo mdc aEl (nI sz_)), (zaR aEl cEl 10 fEl)] U.heap ∧ va_K (dC, dI) vwCl [(cEl, .object "java/lang/Object")] U ∧ va_D (fun _ => True) [(zo1iri bo mdc aEl (nI sz_)), (zaR aEl cEl 10 fEl)] ∧ Gi ad cB bS (va_A [(zo1iri bo mdc aEl (nI sz_)), (zaR aEl cEl 10 fEl)] sz) U ∧ Gb (va_A [(zo1iri bo mdc aEl (nI sz_)), (zaR aEl cEl 10 fEl)] sz) U ∧ Gw (va_A [(zo1iri bo mdc aEl (nI sz_)), (zaR aEl cEl 10 fEl)] sz) U ∧ Fz dC dI [(zo12iiii a0 sk (nI i0) sv scl)] [] (va_A [(zo1iri bo mdc aEl (nI sz_)), (zaR aEl cEl 10 fEl)] sz) U)) (va_Qi (fun (r : Int32) (u : (Int32) × (Nat) × (Nat → Option Nat)) => match u with | (mdc9, sz_9, fEl9) => r = (x * 3 + nI i0) - sv ∧ sz_9 = sz_ + 3 ∧ okL ad fEl9 sz_9 (tl ++ [2, 11, 1])) (fun (u : (Int32) × (Nat) × (Nat → Option Nat)) (t : State) => match u with | (mdc9, sz_9, fEl9) => va_P (dC, dI) vwCl [(zo1iri bo mdc9 aEl (nI sz_9)), (zaR aEl cEl 10 fEl9)] t.heap ∧ va_K (dC, dI) vwCl [(cEl, .object "java/lang/Object")] t ∧ va_D (va_A [(zo1iri bo mdc aEl (nI sz_)), (zaR aEl cEl 10 fEl)] sz) [(zo1iri bo mdc9 aEl (nI sz_9)), (zaR aEl cEl 10 fEl9)]) (va_A [(zo1iri bo mdc aEl (nI sz_)), (zaR aEl cEl 10 fEl)] sz)) 0 0 (va_A [(zo1iri bo mdc aEl (nI sz_)), (zaR aEl cEl 10 fEl)] sz) := by
  refine met_ofQ (cc := cX3_doGoes) (maxL := 3) (ret := (some .int)) (by decide) rfl ?_
  intro p e s m args below meth c s₁ Q B hml hv hQ
  obtain ⟨rfl, hsz, hP, hK, hD0, hI_, hB_, hW_, hZ⟩ := hv
  have hx := B.exec
  have hb := B.bytes
  have hr := B.returns
  have hts := atoms_spec (ws := wsX3_doGoes) B.pre
  have hown : s.vm.findClass RX3 = some m.cls := findClass_of_methodNamed B.named
  have hlocks := B.notSynchronized
  subst hsz
  have hD := hD0.self (sz := s.heap.size)
  generalize hAe : va_A [(zo1iri bo mdc aEl (nI sz_)), (zaR aEl cEl 10 fEl)] s.heap.size = A at hD hQ hI_ hB_ hW_ hZ ⊢
  have hA : ∀ q : Nat, s.heap.size ≤ q → A q := fun q h => by rw [← hAe]; exact Or.inr h
  have hS : va_S A s.heap s.heap [] := va_S.rf
  have hl := lv_entry [.ref a0, .int x, .ref bo] (n := 3) (Nat.le_of_ble_eq_true rfl)
  rw [lg_entry_eq]
  generalize (lg_sl [.ref a0, .int x, .ref bo] ++ List.replicate (3 - (lg_sl [.ref a0, .int x, .ref bo]).length) Slot.unset).toArray = ls at hl ⊢
  generalize hag : ([.ref a0, .int x, .ref bo] : List Value).toArray = args at hts hQ ⊢
  have hl : lv_has ls 3 [(0, .ref a0), (1, .int x), (2, .ref bo)] := hl
  obtain ⟨H, hH⟩ : ∃ H : Heap, H = s.heap := ⟨_, rfl⟩
  rw [← hH] at hP
  rw [← hH]
  have hS : va_S A s.heap H [] := by rw [hH]; exact hS
  obtain ⟨locs, hlo⟩ : ∃ L : List Loc, L = [] := ⟨_, rfl⟩
  rw [← hlo] at hS
  rw [← hlo]
  clear hH hlo
  refine lv_iconst (v := 2) hx hb dX3_doGoes_0 (by decide) ?_
  refine lv_aload_n hx hb dX3_doGoes_1 rfl (lv_at hl 2 rfl) ?_
  have hPc := hP.sub (ws' := [(zo1iri bo mdc aEl (nI sz_)), (zaR aEl cEl 10 fEl)]) [0, 1] rfl
  have hDc := hD.sub (ws' := [(zo1iri bo mdc aEl (nI sz_)), (zaR aEl cEl 10 fEl)]) [0, 1] (by decide) rfl
  have hKc := hK.sub (tys' := [(cEl, .object "java/lang/Object")]) [0] rfl
  have hFc := va_free (wc := [(zo1iri bo mdc aEl (nI sz_)), (zaR aEl cEl 10 fEl)]) hD hS hA [0, 1] rfl
  refine va_callv (va_runS (As := [.int 2, .ref bo]) (rest := []) ⟨hx, hb, hml, hown, hts⟩ (c_begin1 l dC dI ad cB bS bo aEl 2 cEl fEl sz_ mdc tl H.size (by omega) (by omega) (zL)) (va_cwS 2 hts gX3_doGoes_X3_begin rfl rfl rfl hd_yX3_begin.2 ⟨Nat.le_of_ble_eq_true rfl, Nat.le_of_ble_eq_true rfl⟩) ⟨fun a U g mk q => by obtain ⟨q0, q1, qP, qK, qD, qhI_⟩ := q; exact ⟨q0, mvz g mk a q1, mvP g mk a qP, mvK g mk a qK, qD, qhI_.mv g mk a⟩, fun U hU hW => ⟨rfl, by rw [hU], by rw [hU]; exact hPc, va_K.moved hW.alike hKc, hDc.weaken (fun _ _ _ _ => trivial), hI_.call hS hU hW (fun q h => hFc q h)⟩⟩ rfl rfl hl.1 rfl (lv_room (Nat.le_of_ble_eq_true rfl)) dX3_doGoes_2 ⟨Nat.le_of_ble_eq_true rfl, Nat.le_of_ble_eq_true rfl⟩) hS (fun q _ h => hFc q h) hFc (fun u tC H1 locs htC hvm hw_2 hB hz1 hk1 hS => ?_)
  obtain ⟨mdc9_3, sz_9_4, fEl9_5⟩ := u
  try dsimp only at hw_2 hB
  obtain ⟨hP1, hK1, hD1⟩ := hB
  rw [htC] at hP1
  have hK1 := va_K.moved hvm.symm hK1
  obtain ⟨hP, hD⟩ := va_join (wr := []) (w1 := [(zo1iri bo mdc9_3 aEl (nI sz_9_4)), (zaR aEl cEl 10 fEl9_5)]) hP hD [0, 1] [] rfl rfl (by decide) (by decide) hk1 hFc hP1 hD1
  have hK := (hK.sub (tys' := []) [] rfl).app hK1
  generalize H1 = H at hP hS ⊢
  have hP : va_P (dC, dI) vwCl [(zo1iri bo mdc9_3 aEl (nI sz_9_4)), (zaR aEl cEl 10 fEl9_5)] H := hP
  have hD : va_D A [(zo1iri bo mdc9_3 aEl (nI sz_9_4)), (zaR aEl cEl 10 fEl9_5)] := hD
  have hK : va_K (dC, dI) vwCl [(cEl, .object "java/lang/Object")] s := hK
  obtain ⟨e_6, hL_7⟩ := hw_2
  obtain rfl := (e_6).symm
  refine lv_aload_n hx hb dX3_doGoes_5 rfl (lv_at hl 0 rfl) ?_
  refine lv_iload_n hx hb dX3_doGoes_6 rfl (lv_at hl 1 rfl) ?_
  refine lv_aload_n hx hb dX3_doGoes_7 rfl (lv_at hl 2 rfl) ?_
  have hPc := hP.sub (ws' := [(zo1iri bo mdc9_3 aEl (nI (sz_ + 1))), (zaR aEl cEl 10 fEl9_5)]) [0, 1] rfl
  have hDc := hD.sub (ws' := [(zo1iri bo mdc9_3 aEl (nI (sz_ + 1))), (zaR aEl cEl 10 fEl9_5)]) [0, 1] (by decide) rfl
  have hKc := hK.sub (tys' := [(cEl, .object "java/lang/Object")]) [0] rfl
  have hFc := va_free (wc := [(zo1iri bo mdc9_3 aEl (nI (sz_ + 1))), (zaR aEl cEl 10 fEl9_5)]) hD hS hA [0, 1] rfl
  refine va_calli (va_runU (As := [.int x, .ref bo]) (rest := []) ⟨hx, hb, hml, hown, hts⟩ (c_X4_doSees_X10_1 l dC dI ad cB bS    bo aEl i0 sk sv scl x cEl fEl9_5 a0 (sz_ + 1) mdc9_3 (tl ++ [2]) H.size (by omega) (hL_7)) (va_cwO 2 hts gX3_doGoes_X4_doSees_u38X10 rfl rfl rfl kc_X3_doGoes_X10_1_0 (by decide +kernel) ⟨Nat.le_of_ble_eq_true rfl, Nat.le_of_ble_eq_true rfl⟩) ⟨fun a U g mk q => by obtain ⟨q0, q1, qP, qK, qD, qhI_, qhB_, qhW_, qhZ⟩ := q; exact ⟨q0, mvz g mk a q1, mvP g mk a qP, mvK g mk a qK, qD, qhI_.mv g mk a, qhB_.mv g mk a, qhW_.mv g mk a, qhZ.mv g mk a⟩, va_recv hZ.2.1 (hZ.P hS) (ci := 12) (q := (RX10, TX10, 4)) (q0 := 0) rfl rfl, fun U hU hW => ⟨rfl, by rw [hU], by rw [hU]; exact hPc, va_K.moved hW.alike hKc, hDc.weaken (fun _ _ _ _ => trivial), hI_.call hS hU hW (fun q h => hFc q h), hB_.call hS hU hW (fun q h => hFc q h), hW_.call hS hU hW (fun q h => hFc q h), (hZ.sub [0] [] rfl rfl).call hS hU hW (fun q h => hFc q h)⟩⟩ rfl rfl hl.1 rfl (lv_room (Nat.le_of_ble_eq_true rfl)) dX3_doGoes_8 ⟨Nat.le_of_ble_eq_true rfl, Nat.le_of_ble_eq_true rfl⟩) hS (fun q _ h => hFc q h) hFc (fun r_8 u tC H1 locs htC hvm hw_9 hB hz1 hk1 hS => ?_)
  obtain ⟨mdc9_10, sz_9_11, fEl9_12⟩ := u
  try dsimp only at hw_9 hB
  obtain ⟨hP1, hK1, hD1⟩ := hB
  rw [htC] at hP1
  have hK1 := va_K.moved hvm.symm hK1
  obtain ⟨hP, hD⟩ := va_join (wr := []) (w1 := [(zo1iri bo mdc9_10 aEl (nI sz_9_11)), (zaR aEl cEl 10 fEl9_12)]) hP hD [0, 1] [] rfl rfl (by decide) (by decide) hk1 hFc hP1 hD1
  have hK := (hK.sub (tys' := []) [] rfl).app hK1
  generalize H1 = H at hP hS ⊢
  have hP : va_P (dC, dI) vwCl [(zo1iri bo mdc9_10 aEl (nI sz_9_11)), (zaR aEl cEl 10 fEl9_12)] H := hP
  have hD : va_D A [(zo1iri bo mdc9_10 aEl (nI sz_9_11)), (zaR aEl cEl 10 fEl9_12)] := hD
  have hK : va_K (dC, dI) vwCl [(cEl, .object "java/lang/Object")] s := hK
  obtain ⟨er_13, e_14, hL_15⟩ := hw_9
  obtain rfl := (e_14).symm
  subst er_13
  refine lv_aload_n hx hb dX3_doGoes_11 rfl (lv_at hl 0 rfl) ?_
  refine va_get (D := (dC, dI)) (ci := 12) (v := .int sv) (C := RX10) (T := TX10) (N := 4) hx hb hts kc_X3_doGoes_X10_1_2 hown hZ.2.1 (hZ.P hS) 0 rfl rfl 2 (by decide) (hts (.fieldLink RX3 18 "MistHeaps$Heap" "v" "I") kc_X3_doGoes_X10_1_1) (fun _ h9 => h9) rfl dX3_doGoes_12 ?_
  refine lv_isub hx hb dX3_doGoes_15 ?_
  rw [hQ]
  have hP9 := hP.sub (ws' := [(zo1iri bo mdc9_10 aEl (nI ((sz_ + 1) + 2))), (zaR aEl cEl 10 fEl9_12)]) [0, 1] rfl
  have hD9 := hD.sub (ws' := [(zo1iri bo mdc9_10 aEl (nI ((sz_ + 1) + 2))), (zaR aEl cEl 10 fEl9_12)]) [0, 1] (by decide) rfl
  have hK9 := hK.sub (tys' := [(cEl, .object "java/lang/Object")]) [0] rfl
  exact W.iret (v := (x * 3 + nI i0) - sv) hx hb hr (fun tQ htQ hWQ => ⟨⟨((x * 3 + nI i0) - sv), (mdc9_10, ((sz_ + 1) + 2), fEl9_12), rfl, ⟨rfl, by omega, by have h9 := okL_as (hL_15); exact h9⟩, by rw [htQ]; exact hP9, va_K.moved hWQ.alike hK9, hD9⟩, hS.F htQ⟩) hS.2.2 dX3_doGoes_16

theorem kc_X3_doGoes_X10_0_0 : (.code yX3_doSees cX3_doSees 3 (some .int) : Cond) ∈ wsX3_doGoes := kc_of 1025 rfl rfl rfl
theorem kc_X3_doGoes_X10_0_1 : (.fieldLink RX3 18 "MistHeaps$Heap" "v" "I" : Cond) ∈ wsX3_doGoes := kc_of 236 rfl rfl rfl
theorem kc_X3_doGoes_X10_0_2 : ∀ w ∈ wsX100, w ∈ wsX3_doGoes := fun w h => List.mem_cons_of_mem _ (gin_wsX100 w h)
set_option maxHeartbeats 4000000 in
set_option maxRecDepth 100000 in
theorem c_X3_doGoes_X10_0 (l : Launch) (dC : Nat → ClassId) (dI : Nat → Nat → Nat) (ad : Nat → Nat) (cB bS : Nat)    (bo : Nat) (i0 : Nat) (sk : Int32) (sv : Int32) (scl : Int32) (x : Int32) (a0 : Nat) (mdc : Int32) (sz : Nat) : Met l yX3_doGoes wsX3_doGoes ({ frames := 6, cells := 1, slots := 10, locals := 122 } : Room) (va_Pc [.ref a0, .int x, .ref bo] (fun U => U.heap.size = sz ∧ va_P (dC, dI) vwCl [(zo1iri bo mdc bS 0)] U.heap ∧ va_K (dC, dI) vwCl [] U ∧ va_D (fun _ => True) [(zo1iri bo mdc bS 0)] ∧ Gi ad cB bS (va_A [(zo1iri bo mdc bS 0)] sz) U ∧ Gb (va_A [(zo1iri bo mdc bS 0)] sz) U ∧ Gw (va_A [(zo1iri bo mdc bS 0)] sz) U ∧ Fz dC dI [(zo12iiii a0 sk (nI i0) sv scl)] [] (va_A [(zo1iri bo mdc bS 0)] sz) U)) (va_Qi (fun (r : Int32) (u : (Int32) × (Nat) × (ClassId) × (Nat) × (Nat → Option Nat)) => match u with | (mdc9, aEl9, cEl9, sz_9, fEl9) => r = (x * 3 + nI i0) - sv ∧ sz_9 = 3 ∧ okL ad fEl9 sz_9 [2, 11, 1]) (fun (u : (Int32) × (Nat) × (ClassId) × (Nat) × (Nat → Option Nat)) (t : State) => match u with | (mdc9, aEl9, cEl9, sz_9, fEl9) => va_P (dC, dI) vwCl [(zo1iri bo mdc9 aEl9 (nI sz_9)), (zaR aEl9 cEl9 10 fEl9)] t.heap ∧ va_K (dC, dI) vwCl [(cEl9, .object "java/lang/Object")] t ∧ va_D (va_A [(zo1iri bo mdc bS 0)] sz) [(zo1iri bo mdc9 aEl9 (nI sz_9)), (zaR aEl9 cEl9 10 fEl9)]) (va_A [(zo1iri bo mdc bS 0)] sz)) 1 10 (va_A [(zo1iri bo mdc bS 0)] sz) := by
  refine met_ofQ (cc := cX3_doGoes) (maxL := 3) (ret := (some .int)) (by decide) rfl ?_
  intro p e s m args below meth c s₁ Q B hml hv hQ
  obtain ⟨rfl, hsz, hP, hK, hD0, hI_, hB_, hW_, hZ⟩ := hv
  have hx := B.exec
  have hb := B.bytes
  have hr := B.returns
  have hts := atoms_spec (ws := wsX3_doGoes) B.pre
  have hown : s.vm.findClass RX3 = some m.cls := findClass_of_methodNamed B.named
  have hlocks := B.notSynchronized
  subst hsz
  have hD := hD0.self (sz := s.heap.size)
  generalize hAe : va_A [(zo1iri bo mdc bS 0)] s.heap.size = A at hD hQ hI_ hB_ hW_ hZ ⊢
  have hA : ∀ q : Nat, s.heap.size ≤ q → A q := fun q h => by rw [← hAe]; exact Or.inr h
  have hS : va_S A s.heap s.heap [] := va_S.rf
  have hl := lv_entry [.ref a0, .int x, .ref bo] (n := 3) (Nat.le_of_ble_eq_true rfl)
  rw [lg_entry_eq]
  generalize (lg_sl [.ref a0, .int x, .ref bo] ++ List.replicate (3 - (lg_sl [.ref a0, .int x, .ref bo]).length) Slot.unset).toArray = ls at hl ⊢
  generalize hag : ([.ref a0, .int x, .ref bo] : List Value).toArray = args at hts hQ ⊢
  have hl : lv_has ls 3 [(0, .ref a0), (1, .int x), (2, .ref bo)] := hl
  obtain ⟨H, hH⟩ : ∃ H : Heap, H = s.heap := ⟨_, rfl⟩
  rw [← hH] at hP
  rw [← hH]
  have hS : va_S A s.heap H [] := by rw [hH]; exact hS
  obtain ⟨locs, hlo⟩ : ∃ L : List Loc, L = [] := ⟨_, rfl⟩
  rw [← hlo] at hS
  rw [← hlo]
  clear hH hlo
  refine lv_iconst (v := 2) hx hb dX3_doGoes_0 (by decide) ?_
  refine lv_aload_n hx hb dX3_doGoes_1 rfl (lv_at hl 2 rfl) ?_
  have hPc := hP.sub (ws' := [(zo1iri bo mdc bS 0)]) [0] rfl
  have hDc := hD.sub (ws' := [(zo1iri bo mdc bS 0)]) [0] (by decide) rfl
  have hKc := hK.sub (tys' := []) [] rfl
  have hFc := va_free (wc := [(zo1iri bo mdc bS 0)]) hD hS hA [0] rfl
  refine va_callv (va_runS (As := [.int 2, .ref bo]) (rest := []) ⟨hx, hb, hml, hown, hts⟩ (c_begin0 l dC dI ad cB bS bo mdc 2 H.size (by omega)) (va_cwS 2 hts gX3_doGoes_X3_begin rfl rfl rfl hd_yX3_begin.2 ⟨Nat.le_of_ble_eq_true rfl, Nat.le_of_ble_eq_true rfl⟩) ⟨fun a U g mk q => by obtain ⟨q0, q1, qP, qK, qD, qhI_⟩ := q; exact ⟨q0, mvz g mk a q1, mvP g mk a qP, mvK g mk a qK, qD, qhI_.mv g mk a⟩, fun U hU hW => ⟨rfl, by rw [hU], by rw [hU]; exact hPc, va_K.moved hW.alike hKc, hDc.weaken (fun _ _ _ _ => trivial), hI_.call hS hU hW (fun q h => hFc q h)⟩⟩ rfl rfl hl.1 rfl (lv_room (Nat.le_of_ble_eq_true rfl)) dX3_doGoes_2 ⟨Nat.le_of_ble_eq_true rfl, Nat.le_of_ble_eq_true rfl⟩) hS (fun q _ h => hFc q h) hFc (fun u tC H1 locs htC hvm hw_2 hB hz1 hk1 hS => ?_)
  obtain ⟨mdc9_3, aEl9_4, cEl9_5, sz_9_6, fEl9_7⟩ := u
  try dsimp only at hw_2 hB
  obtain ⟨hP1, hK1, hD1⟩ := hB
  rw [htC] at hP1
  have hK1 := va_K.moved hvm.symm hK1
  obtain ⟨hP, hD⟩ := va_join (wr := []) (w1 := [(zo1iri bo mdc9_3 aEl9_4 (nI sz_9_6)), (zaR aEl9_4 cEl9_5 10 fEl9_7)]) hP hD [0] [] rfl rfl (by decide) (by decide) hk1 hFc hP1 hD1
  have hK := (hK.sub (tys' := []) [] rfl).app hK1
  generalize H1 = H at hP hS ⊢
  have hP : va_P (dC, dI) vwCl [(zo1iri bo mdc9_3 aEl9_4 (nI sz_9_6)), (zaR aEl9_4 cEl9_5 10 fEl9_7)] H := hP
  have hD : va_D A [(zo1iri bo mdc9_3 aEl9_4 (nI sz_9_6)), (zaR aEl9_4 cEl9_5 10 fEl9_7)] := hD
  have hK : va_K (dC, dI) vwCl [(cEl9_5, .object "java/lang/Object")] s := hK
  refine W.widen (k := 1) (n := 10) (by omega) (by omega) ?_
  obtain ⟨e_8, hL_9⟩ := hw_2
  obtain rfl := (e_8).symm
  refine lv_aload_n hx hb dX3_doGoes_5 rfl (lv_at hl 0 rfl) ?_
  refine lv_iload_n hx hb dX3_doGoes_6 rfl (lv_at hl 1 rfl) ?_
  refine lv_aload_n hx hb dX3_doGoes_7 rfl (lv_at hl 2 rfl) ?_
  have hPc := hP.sub (ws' := [(zo1iri bo mdc9_3 aEl9_4 (nI 1)), (zaR aEl9_4 cEl9_5 10 fEl9_7)]) [0, 1] rfl
  have hDc := hD.sub (ws' := [(zo1iri bo mdc9_3 aEl9_4 (nI 1)), (zaR aEl9_4 cEl9_5 10 fEl9_7)]) [0, 1] (by decide) rfl
  have hKc := hK.sub (tys' := [(cEl9_5, .object "java/lang/Object")]) [0] rfl
  have hFc := va_free (wc := [(zo1iri bo mdc9_3 aEl9_4 (nI 1)), (zaR aEl9_4 cEl9_5 10 fEl9_7)]) hD hS hA [0, 1] rfl
  refine va_calli (va_runU (As := [.int x, .ref bo]) (rest := []) ⟨hx, hb, hml, hown, hts⟩ (c_X4_doSees_X10_1 l dC dI ad cB bS    bo aEl9_4 i0 sk sv scl x cEl9_5 fEl9_7 a0 1 mdc9_3 ([2]) H.size (by omega) (hL_9)) (va_cwO 2 hts gX3_doGoes_X4_doSees_u38X10 rfl rfl rfl kc_X3_doGoes_X10_0_0 (by decide +kernel) ⟨Nat.le_of_ble_eq_true rfl, Nat.le_of_ble_eq_true rfl⟩) ⟨fun a U g mk q => by obtain ⟨q0, q1, qP, qK, qD, qhI_, qhB_, qhW_, qhZ⟩ := q; exact ⟨q0, mvz g mk a q1, mvP g mk a qP, mvK g mk a qK, qD, qhI_.mv g mk a, qhB_.mv g mk a, qhW_.mv g mk a, qhZ.mv g mk a⟩, va_recv hZ.2.1 (hZ.P hS) (ci := 12) (q := (RX10, TX10, 4)) (q0 := 0) rfl rfl, fun U hU hW => ⟨rfl, by rw [hU], by rw [hU]; exact hPc, va_K.moved hW.alike hKc, hDc.weaken (fun _ _ _ _ => trivial), hI_.call hS hU hW (fun q h => hFc q h), hB_.call hS hU hW (fun q h => hFc q h), hW_.call hS hU hW (fun q h => hFc q h), (hZ.sub [0] [] rfl rfl).call hS hU hW (fun q h => hFc q h)⟩⟩ rfl rfl hl.1 rfl (lv_room (Nat.le_of_ble_eq_true rfl)) dX3_doGoes_8 ⟨Nat.le_of_ble_eq_true rfl, Nat.le_of_ble_eq_true rfl⟩) hS (fun q _ h => hFc q h) hFc (fun r_10 u tC H1 locs htC hvm hw_11 hB hz1 hk1 hS => ?_)
  obtain ⟨mdc9_12, sz_9_13, fEl9_14⟩ := u
  try dsimp only at hw_11 hB
  obtain ⟨hP1, hK1, hD1⟩ := hB
  rw [htC] at hP1
  have hK1 := va_K.moved hvm.symm hK1
  obtain ⟨hP, hD⟩ := va_join (wr := []) (w1 := [(zo1iri bo mdc9_12 aEl9_4 (nI sz_9_13)), (zaR aEl9_4 cEl9_5 10 fEl9_14)]) hP hD [0, 1] [] rfl rfl (by decide) (by decide) hk1 hFc hP1 hD1
  have hK := (hK.sub (tys' := []) [] rfl).app hK1
  generalize H1 = H at hP hS ⊢
  have hP : va_P (dC, dI) vwCl [(zo1iri bo mdc9_12 aEl9_4 (nI sz_9_13)), (zaR aEl9_4 cEl9_5 10 fEl9_14)] H := hP
  have hD : va_D A [(zo1iri bo mdc9_12 aEl9_4 (nI sz_9_13)), (zaR aEl9_4 cEl9_5 10 fEl9_14)] := hD
  have hK : va_K (dC, dI) vwCl [(cEl9_5, .object "java/lang/Object")] s := hK
  obtain ⟨er_15, e_16, hL_17⟩ := hw_11
  obtain rfl := (e_16).symm
  subst er_15
  refine lv_aload_n hx hb dX3_doGoes_11 rfl (lv_at hl 0 rfl) ?_
  refine va_get (D := (dC, dI)) (ci := 12) (v := .int sv) (C := RX10) (T := TX10) (N := 4) hx hb hts kc_X3_doGoes_X10_0_2 hown hZ.2.1 (hZ.P hS) 0 rfl rfl 2 (by decide) (hts (.fieldLink RX3 18 "MistHeaps$Heap" "v" "I") kc_X3_doGoes_X10_0_1) (fun _ h9 => h9) rfl dX3_doGoes_12 ?_
  refine lv_isub hx hb dX3_doGoes_15 ?_
  rw [hQ]
  have hP9 := hP.sub (ws' := [(zo1iri bo mdc9_12 aEl9_4 (nI (1 + 2))), (zaR aEl9_4 cEl9_5 10 fEl9_14)]) [0, 1] rfl
  have hD9 := hD.sub (ws' := [(zo1iri bo mdc9_12 aEl9_4 (nI (1 + 2))), (zaR aEl9_4 cEl9_5 10 fEl9_14)]) [0, 1] (by decide) rfl
  have hK9 := hK.sub (tys' := [(cEl9_5, .object "java/lang/Object")]) [0] rfl
  refine W.widen (k := 1) (n := 10) (by omega) (by omega) ?_
  exact W.iret (v := (x * 3 + nI i0) - sv) hx hb hr (fun tQ htQ hWQ => ⟨⟨((x * 3 + nI i0) - sv), (mdc9_12, aEl9_4, cEl9_5, (1 + 2), fEl9_14), rfl, ⟨rfl, by omega, hL_17⟩, by rw [htQ]; exact hP9, va_K.moved hWQ.alike hK9, hD9⟩, hS.F htQ⟩) hS.2.2 dX3_doGoes_16

set_option maxHeartbeats 4000000 in
set_option maxRecDepth 100000 in
theorem c_X3_doLooks_X10_1 (l : Launch) (dC : Nat → ClassId) (dI : Nat → Nat → Nat) (ad : Nat → Nat) (cB bS : Nat)    (bo : Nat) (aEl : Nat) (i0 : Nat) (sk : Int32) (sv : Int32) (scl : Int32) (x : Int32) (cEl : ClassId) (fEl : Nat → Option Nat) (a0 : Nat) (sz_ : Nat) (mdc : Int32) (tl : List Nat) (sz : Nat) (hsz : sz_ + 4 ≤ 10) (zL : okL ad fEl sz_ tl) : Met l yX3_doLooks wsX3_doLooks ({ frames := 6, cells := 0, slots := 0, locals := 131 } : Room) (va_Pc [.ref a0, .int x, .ref bo] (fun U => U.heap.size = sz ∧ va_P (dC, dI) vwCl [(zo1iri bo mdc aEl (nI sz_)), (zaR aEl cEl 10 fEl)] U.heap ∧ va_K (dC, dI) vwCl [(cEl, .object "java/lang/Object")] U ∧ va_D (fun _ => True) [(zo1iri bo mdc aEl (nI sz_)), (zaR aEl cEl 10 fEl)] ∧ Gi ad cB bS (va_A [(zo1iri bo mdc aEl (nI sz_)), (zaR aEl cEl 10 fEl)] sz) U ∧ Gb (va_A [(zo1iri bo mdc aEl (nI sz_)), (zaR aEl cEl 10 fEl)] sz) U ∧ Gw (va_A [(zo1iri bo mdc aEl (nI sz_)), (zaR aEl cEl 10 fEl)] sz) U ∧ Fz dC dI [(zo12iiii a0 sk (nI i0) sv scl)] [] (va_A [(zo1iri bo mdc aEl (nI sz_)), (zaR aEl cEl 10 fEl)] sz) U)) (va_Qi (fun (r : Int32) (u : (Int32) × (Nat) × (Nat → Option Nat)) => match u with | (mdc9, sz_9, fEl9) => r = ((x * 3 + nI i0) - sv) * 2 ∧ sz_9 = sz_ + 4 ∧ okL ad fEl9 sz_9 (tl ++ [3, 2, 11, 1])) (fun (u : (Int32) × (Nat) × (Nat → Option Nat)) (t : State) => match u with | (mdc9, sz_9, fEl9) => va_P (dC, dI) vwCl [(zo1iri bo mdc9 aEl (nI sz_9)), (zaR aEl cEl 10 fEl9)] t.heap ∧ va_K (dC, dI) vwCl [(cEl, .object "java/lang/Object")] t ∧ va_D (va_A [(zo1iri bo mdc aEl (nI sz_)), (zaR aEl cEl 10 fEl)] sz) [(zo1iri bo mdc9 aEl (nI sz_9)), (zaR aEl cEl 10 fEl9)]) (va_A [(zo1iri bo mdc aEl (nI sz_)), (zaR aEl cEl 10 fEl)] sz)) 0 0 (va_A [(zo1iri bo mdc aEl (nI sz_)), (zaR aEl cEl 10 fEl)] sz) := by
  refine met_ofQ (cc := cX3_doLooks) (maxL := 3) (ret := (some .int)) (by decide) rfl ?_
  intro p e s m args below meth c s₁ Q B hml hv hQ
  obtain ⟨rfl, hsz, hP, hK, hD0, hI_, hB_, hW_, hZ⟩ := hv
  have hx := B.exec
  have hb := B.bytes
  have hr := B.returns
  have hts := atoms_spec (ws := wsX3_doLooks) B.pre
  have hown : s.vm.findClass RX3 = some m.cls := findClass_of_methodNamed B.named
  have hlocks := B.notSynchronized
  subst hsz
  have hD := hD0.self (sz := s.heap.size)
  generalize hAe : va_A [(zo1iri bo mdc aEl (nI sz_)), (zaR aEl cEl 10 fEl)] s.heap.size = A at hD hQ hI_ hB_ hW_ hZ ⊢
  have hA : ∀ q : Nat, s.heap.size ≤ q → A q := fun q h => by rw [← hAe]; exact Or.inr h
  have hS : va_S A s.heap s.heap [] := va_S.rf
  have hl := lv_entry [.ref a0, .int x, .ref bo] (n := 3) (Nat.le_of_ble_eq_true rfl)
  rw [lg_entry_eq]
  generalize (lg_sl [.ref a0, .int x, .ref bo] ++ List.replicate (3 - (lg_sl [.ref a0, .int x, .ref bo]).length) Slot.unset).toArray = ls at hl ⊢
  generalize hag : ([.ref a0, .int x, .ref bo] : List Value).toArray = args at hts hQ ⊢
  have hl : lv_has ls 3 [(0, .ref a0), (1, .int x), (2, .ref bo)] := hl
  obtain ⟨H, hH⟩ : ∃ H : Heap, H = s.heap := ⟨_, rfl⟩
  rw [← hH] at hP
  rw [← hH]
  have hS : va_S A s.heap H [] := by rw [hH]; exact hS
  obtain ⟨locs, hlo⟩ : ∃ L : List Loc, L = [] := ⟨_, rfl⟩
  rw [← hlo] at hS
  rw [← hlo]
  clear hH hlo
  refine lv_iconst (v := 3) hx hb dX3_doLooks_0 (by decide) ?_
  refine lv_aload_n hx hb dX3_doLooks_1 rfl (lv_at hl 2 rfl) ?_
  have hPc := hP.sub (ws' := [(zo1iri bo mdc aEl (nI sz_)), (zaR aEl cEl 10 fEl)]) [0, 1] rfl
  have hDc := hD.sub (ws' := [(zo1iri bo mdc aEl (nI sz_)), (zaR aEl cEl 10 fEl)]) [0, 1] (by decide) rfl
  have hKc := hK.sub (tys' := [(cEl, .object "java/lang/Object")]) [0] rfl
  have hFc := va_free (wc := [(zo1iri bo mdc aEl (nI sz_)), (zaR aEl cEl 10 fEl)]) hD hS hA [0, 1] rfl
  refine va_callv (va_runS (As := [.int 3, .ref bo]) (rest := []) ⟨hx, hb, hml, hown, hts⟩ (c_begin1 l dC dI ad cB bS bo aEl 3 cEl fEl sz_ mdc tl H.size (by omega) (by omega) (zL)) (va_cwS 2 hts gX3_doLooks_X3_begin rfl rfl rfl hd_yX3_begin.2 ⟨Nat.le_of_ble_eq_true rfl, Nat.le_of_ble_eq_true rfl⟩) ⟨fun a U g mk q => by obtain ⟨q0, q1, qP, qK, qD, qhI_⟩ := q; exact ⟨q0, mvz g mk a q1, mvP g mk a qP, mvK g mk a qK, qD, qhI_.mv g mk a⟩, fun U hU hW => ⟨rfl, by rw [hU], by rw [hU]; exact hPc, va_K.moved hW.alike hKc, hDc.weaken (fun _ _ _ _ => trivial), hI_.call hS hU hW (fun q h => hFc q h)⟩⟩ rfl rfl hl.1 rfl (lv_room (Nat.le_of_ble_eq_true rfl)) dX3_doLooks_2 ⟨Nat.le_of_ble_eq_true rfl, Nat.le_of_ble_eq_true rfl⟩) hS (fun q _ h => hFc q h) hFc (fun u tC H1 locs htC hvm hw_2 hB hz1 hk1 hS => ?_)
  obtain ⟨mdc9_3, sz_9_4, fEl9_5⟩ := u
  try dsimp only at hw_2 hB
  obtain ⟨hP1, hK1, hD1⟩ := hB
  rw [htC] at hP1
  have hK1 := va_K.moved hvm.symm hK1
  obtain ⟨hP, hD⟩ := va_join (wr := []) (w1 := [(zo1iri bo mdc9_3 aEl (nI sz_9_4)), (zaR aEl cEl 10 fEl9_5)]) hP hD [0, 1] [] rfl rfl (by decide) (by decide) hk1 hFc hP1 hD1
  have hK := (hK.sub (tys' := []) [] rfl).app hK1
  generalize H1 = H at hP hS ⊢
  have hP : va_P (dC, dI) vwCl [(zo1iri bo mdc9_3 aEl (nI sz_9_4)), (zaR aEl cEl 10 fEl9_5)] H := hP
  have hD : va_D A [(zo1iri bo mdc9_3 aEl (nI sz_9_4)), (zaR aEl cEl 10 fEl9_5)] := hD
  have hK : va_K (dC, dI) vwCl [(cEl, .object "java/lang/Object")] s := hK
  obtain ⟨e_6, hL_7⟩ := hw_2
  obtain rfl := (e_6).symm
  refine lv_aload_n hx hb dX3_doLooks_5 rfl (lv_at hl 0 rfl) ?_
  refine lv_iload_n hx hb dX3_doLooks_6 rfl (lv_at hl 1 rfl) ?_
  refine lv_aload_n hx hb dX3_doLooks_7 rfl (lv_at hl 2 rfl) ?_
  have hPc := hP.sub (ws' := [(zo1iri bo mdc9_3 aEl (nI (sz_ + 1))), (zaR aEl cEl 10 fEl9_5)]) [0, 1] rfl
  have hDc := hD.sub (ws' := [(zo1iri bo mdc9_3 aEl (nI (sz_ + 1))), (zaR aEl cEl 10 fEl9_5)]) [0, 1] (by decide) rfl
  have hKc := hK.sub (tys' := [(cEl, .object "java/lang/Object")]) [0] rfl
  have hFc := va_free (wc := [(zo1iri bo mdc9_3 aEl (nI (sz_ + 1))), (zaR aEl cEl 10 fEl9_5)]) hD hS hA [0, 1] rfl
  refine va_calli (va_runU (As := [.int x, .ref bo]) (rest := []) ⟨hx, hb, hml, hown, hts⟩ (c_X3_doGoes_X10_1 l dC dI ad cB bS    bo aEl i0 sk sv scl x cEl fEl9_5 a0 (sz_ + 1) mdc9_3 (tl ++ [3]) H.size (by omega) (hL_7)) (va_cwU 2 hts gX3_doLooks_X3_doGoes_u42X10 rfl rfl rfl rfl (by decide +kernel) ⟨Nat.le_of_ble_eq_true rfl, Nat.le_of_ble_eq_true rfl⟩) ⟨fun a U g mk q => by obtain ⟨q0, q1, qP, qK, qD, qhI_, qhB_, qhW_, qhZ⟩ := q; exact ⟨q0, mvz g mk a q1, mvP g mk a qP, mvK g mk a qK, qD, qhI_.mv g mk a, qhB_.mv g mk a, qhW_.mv g mk a, qhZ.mv g mk a⟩, va_recv hZ.2.1 (hZ.P hS) (ci := 12) (q := (RX10, TX10, 4)) (q0 := 0) rfl rfl, fun U hU hW => ⟨rfl, by rw [hU], by rw [hU]; exact hPc, va_K.moved hW.alike hKc, hDc.weaken (fun _ _ _ _ => trivial), hI_.call hS hU hW (fun q h => hFc q h), hB_.call hS hU hW (fun q h => hFc q h), hW_.call hS hU hW (fun q h => hFc q h), (hZ.sub [0] [] rfl rfl).call hS hU hW (fun q h => hFc q h)⟩⟩ rfl rfl hl.1 rfl (lv_room (Nat.le_of_ble_eq_true rfl)) dX3_doLooks_8 ⟨Nat.le_of_ble_eq_true rfl, Nat.le_of_ble_eq_true rfl⟩) hS (fun q _ h => hFc q h) hFc (fun r_8 u tC H1 locs htC hvm hw_9 hB hz1 hk1 hS => ?_)
  obtain ⟨mdc9_10, sz_9_11, fEl9_12⟩ := u
  try dsimp only at hw_9 hB
  obtain ⟨hP1, hK1, hD1⟩ := hB
  rw [htC] at hP1
  have hK1 := va_K.moved hvm.symm hK1
  obtain ⟨hP, hD⟩ := va_join (wr := []) (w1 := [(zo1iri bo mdc9_10 aEl (nI sz_9_11)), (zaR aEl cEl 10 fEl9_12)]) hP hD [0, 1] [] rfl rfl (by decide) (by decide) hk1 hFc hP1 hD1
  have hK := (hK.sub (tys' := []) [] rfl).app hK1
  generalize H1 = H at hP hS ⊢
  have hP : va_P (dC, dI) vwCl [(zo1iri bo mdc9_10 aEl (nI sz_9_11)), (zaR aEl cEl 10 fEl9_12)] H := hP
  have hD : va_D A [(zo1iri bo mdc9_10 aEl (nI sz_9_11)), (zaR aEl cEl 10 fEl9_12)] := hD
  have hK : va_K (dC, dI) vwCl [(cEl, .object "java/lang/Object")] s := hK
  obtain ⟨er_13, e_14, hL_15⟩ := hw_9
  obtain rfl := (e_14).symm
  subst er_13
  refine lv_iconst (v := 2) hx hb dX3_doLooks_11 (by decide) ?_
  refine lv_imul hx hb dX3_doLooks_12 ?_
  rw [hQ]
  have hP9 := hP.sub (ws' := [(zo1iri bo mdc9_10 aEl (nI ((sz_ + 1) + 3))), (zaR aEl cEl 10 fEl9_12)]) [0, 1] rfl
  have hD9 := hD.sub (ws' := [(zo1iri bo mdc9_10 aEl (nI ((sz_ + 1) + 3))), (zaR aEl cEl 10 fEl9_12)]) [0, 1] (by decide) rfl
  have hK9 := hK.sub (tys' := [(cEl, .object "java/lang/Object")]) [0] rfl
  exact W.iret (v := ((x * 3 + nI i0) - sv) * 2) hx hb hr (fun tQ htQ hWQ => ⟨⟨(((x * 3 + nI i0) - sv) * 2), (mdc9_10, ((sz_ + 1) + 3), fEl9_12), rfl, ⟨rfl, by omega, by have h9 := okL_as (hL_15); exact h9⟩, by rw [htQ]; exact hP9, va_K.moved hWQ.alike hK9, hD9⟩, hS.F htQ⟩) hS.2.2 dX3_doLooks_13

set_option maxHeartbeats 4000000 in
set_option maxRecDepth 100000 in
theorem c_X3_doLooks_X10_0 (l : Launch) (dC : Nat → ClassId) (dI : Nat → Nat → Nat) (ad : Nat → Nat) (cB bS : Nat)    (bo : Nat) (i0 : Nat) (sk : Int32) (sv : Int32) (scl : Int32) (x : Int32) (a0 : Nat) (mdc : Int32) (sz : Nat) : Met l yX3_doLooks wsX3_doLooks ({ frames := 6, cells := 1, slots := 10, locals := 131 } : Room) (va_Pc [.ref a0, .int x, .ref bo] (fun U => U.heap.size = sz ∧ va_P (dC, dI) vwCl [(zo1iri bo mdc bS 0)] U.heap ∧ va_K (dC, dI) vwCl [] U ∧ va_D (fun _ => True) [(zo1iri bo mdc bS 0)] ∧ Gi ad cB bS (va_A [(zo1iri bo mdc bS 0)] sz) U ∧ Gb (va_A [(zo1iri bo mdc bS 0)] sz) U ∧ Gw (va_A [(zo1iri bo mdc bS 0)] sz) U ∧ Fz dC dI [(zo12iiii a0 sk (nI i0) sv scl)] [] (va_A [(zo1iri bo mdc bS 0)] sz) U)) (va_Qi (fun (r : Int32) (u : (Int32) × (Nat) × (ClassId) × (Nat) × (Nat → Option Nat)) => match u with | (mdc9, aEl9, cEl9, sz_9, fEl9) => r = ((x * 3 + nI i0) - sv) * 2 ∧ sz_9 = 4 ∧ okL ad fEl9 sz_9 [3, 2, 11, 1]) (fun (u : (Int32) × (Nat) × (ClassId) × (Nat) × (Nat → Option Nat)) (t : State) => match u with | (mdc9, aEl9, cEl9, sz_9, fEl9) => va_P (dC, dI) vwCl [(zo1iri bo mdc9 aEl9 (nI sz_9)), (zaR aEl9 cEl9 10 fEl9)] t.heap ∧ va_K (dC, dI) vwCl [(cEl9, .object "java/lang/Object")] t ∧ va_D (va_A [(zo1iri bo mdc bS 0)] sz) [(zo1iri bo mdc9 aEl9 (nI sz_9)), (zaR aEl9 cEl9 10 fEl9)]) (va_A [(zo1iri bo mdc bS 0)] sz)) 1 10 (va_A [(zo1iri bo mdc bS 0)] sz) := by
  refine met_ofQ (cc := cX3_doLooks) (maxL := 3) (ret := (some .int)) (by decide) rfl ?_
  intro p e s m args below meth c s₁ Q B hml hv hQ
  obtain ⟨rfl, hsz, hP, hK, hD0, hI_, hB_, hW_, hZ⟩ := hv
  have hx := B.exec
  have hb := B.bytes
  have hr := B.returns
  have hts := atoms_spec (ws := wsX3_doLooks) B.pre
  have hown : s.vm.findClass RX3 = some m.cls := findClass_of_methodNamed B.named
  have hlocks := B.notSynchronized
  subst hsz
  have hD := hD0.self (sz := s.heap.size)
  generalize hAe : va_A [(zo1iri bo mdc bS 0)] s.heap.size = A at hD hQ hI_ hB_ hW_ hZ ⊢
  have hA : ∀ q : Nat, s.heap.size ≤ q → A q := fun q h => by rw [← hAe]; exact Or.inr h
  have hS : va_S A s.heap s.heap [] := va_S.rf
  have hl := lv_entry [.ref a0, .int x, .ref bo] (n := 3) (Nat.le_of_ble_eq_true rfl)
  rw [lg_entry_eq]
  generalize (lg_sl [.ref a0, .int x, .ref bo] ++ List.replicate (3 - (lg_sl [.ref a0, .int x, .ref bo]).length) Slot.unset).toArray = ls at hl ⊢
  generalize hag : ([.ref a0, .int x, .ref bo] : List Value).toArray = args at hts hQ ⊢
  have hl : lv_has ls 3 [(0, .ref a0), (1, .int x), (2, .ref bo)] := hl
  obtain ⟨H, hH⟩ : ∃ H : Heap, H = s.heap := ⟨_, rfl⟩
  rw [← hH] at hP
  rw [← hH]
  have hS : va_S A s.heap H [] := by rw [hH]; exact hS
  obtain ⟨locs, hlo⟩ : ∃ L : List Loc, L = [] := ⟨_, rfl⟩
  rw [← hlo] at hS
  rw [← hlo]
  clear hH hlo
  refine lv_iconst (v := 3) hx hb dX3_doLooks_0 (by decide) ?_
  refine lv_aload_n hx hb dX3_doLooks_1 rfl (lv_at hl 2 rfl) ?_
  have hPc := hP.sub (ws' := [(zo1iri bo mdc bS 0)]) [0] rfl
  have hDc := hD.sub (ws' := [(zo1iri bo mdc bS 0)]) [0] (by decide) rfl
  have hKc := hK.sub (tys' := []) [] rfl
  have hFc := va_free (wc := [(zo1iri bo mdc bS 0)]) hD hS hA [0] rfl
  refine va_callv (va_runS (As := [.int 3, .ref bo]) (rest := []) ⟨hx, hb, hml, hown, hts⟩ (c_begin0 l dC dI ad cB bS bo mdc 3 H.size (by omega)) (va_cwS 2 hts gX3_doLooks_X3_begin rfl rfl rfl hd_yX3_begin.2 ⟨Nat.le_of_ble_eq_true rfl, Nat.le_of_ble_eq_true rfl⟩) ⟨fun a U g mk q => by obtain ⟨q0, q1, qP, qK, qD, qhI_⟩ := q; exact ⟨q0, mvz g mk a q1, mvP g mk a qP, mvK g mk a qK, qD, qhI_.mv g mk a⟩, fun U hU hW => ⟨rfl, by rw [hU], by rw [hU]; exact hPc, va_K.moved hW.alike hKc, hDc.weaken (fun _ _ _ _ => trivial), hI_.call hS hU hW (fun q h => hFc q h)⟩⟩ rfl rfl hl.1 rfl (lv_room (Nat.le_of_ble_eq_true rfl)) dX3_doLooks_2 ⟨Nat.le_of_ble_eq_true rfl, Nat.le_of_ble_eq_true rfl⟩) hS (fun q _ h => hFc q h) hFc (fun u tC H1 locs htC hvm hw_2 hB hz1 hk1 hS => ?_)
  obtain ⟨mdc9_3, aEl9_4, cEl9_5, sz_9_6, fEl9_7⟩ := u
  try dsimp only at hw_2 hB
  obtain ⟨hP1, hK1, hD1⟩ := hB
  rw [htC] at hP1
  have hK1 := va_K.moved hvm.symm hK1
  obtain ⟨hP, hD⟩ := va_join (wr := []) (w1 := [(zo1iri bo mdc9_3 aEl9_4 (nI sz_9_6)), (zaR aEl9_4 cEl9_5 10 fEl9_7)]) hP hD [0] [] rfl rfl (by decide) (by decide) hk1 hFc hP1 hD1
  have hK := (hK.sub (tys' := []) [] rfl).app hK1
  generalize H1 = H at hP hS ⊢
  have hP : va_P (dC, dI) vwCl [(zo1iri bo mdc9_3 aEl9_4 (nI sz_9_6)), (zaR aEl9_4 cEl9_5 10 fEl9_7)] H := hP
  have hD : va_D A [(zo1iri bo mdc9_3 aEl9_4 (nI sz_9_6)), (zaR aEl9_4 cEl9_5 10 fEl9_7)] := hD
  have hK : va_K (dC, dI) vwCl [(cEl9_5, .object "java/lang/Object")] s := hK
  refine W.widen (k := 1) (n := 10) (by omega) (by omega) ?_
  obtain ⟨e_8, hL_9⟩ := hw_2
  obtain rfl := (e_8).symm
  refine lv_aload_n hx hb dX3_doLooks_5 rfl (lv_at hl 0 rfl) ?_
  refine lv_iload_n hx hb dX3_doLooks_6 rfl (lv_at hl 1 rfl) ?_
  refine lv_aload_n hx hb dX3_doLooks_7 rfl (lv_at hl 2 rfl) ?_
  have hPc := hP.sub (ws' := [(zo1iri bo mdc9_3 aEl9_4 (nI 1)), (zaR aEl9_4 cEl9_5 10 fEl9_7)]) [0, 1] rfl
  have hDc := hD.sub (ws' := [(zo1iri bo mdc9_3 aEl9_4 (nI 1)), (zaR aEl9_4 cEl9_5 10 fEl9_7)]) [0, 1] (by decide) rfl
  have hKc := hK.sub (tys' := [(cEl9_5, .object "java/lang/Object")]) [0] rfl
  have hFc := va_free (wc := [(zo1iri bo mdc9_3 aEl9_4 (nI 1)), (zaR aEl9_4 cEl9_5 10 fEl9_7)]) hD hS hA [0, 1] rfl
  refine va_calli (va_runU (As := [.int x, .ref bo]) (rest := []) ⟨hx, hb, hml, hown, hts⟩ (c_X3_doGoes_X10_1 l dC dI ad cB bS    bo aEl9_4 i0 sk sv scl x cEl9_5 fEl9_7 a0 1 mdc9_3 ([3]) H.size (by omega) (hL_9)) (va_cwU 2 hts gX3_doLooks_X3_doGoes_u42X10 rfl rfl rfl rfl (by decide +kernel) ⟨Nat.le_of_ble_eq_true rfl, Nat.le_of_ble_eq_true rfl⟩) ⟨fun a U g mk q => by obtain ⟨q0, q1, qP, qK, qD, qhI_, qhB_, qhW_, qhZ⟩ := q; exact ⟨q0, mvz g mk a q1, mvP g mk a qP, mvK g mk a qK, qD, qhI_.mv g mk a, qhB_.mv g mk a, qhW_.mv g mk a, qhZ.mv g mk a⟩, va_recv hZ.2.1 (hZ.P hS) (ci := 12) (q := (RX10, TX10, 4)) (q0 := 0) rfl rfl, fun U hU hW => ⟨rfl, by rw [hU], by rw [hU]; exact hPc, va_K.moved hW.alike hKc, hDc.weaken (fun _ _ _ _ => trivial), hI_.call hS hU hW (fun q h => hFc q h), hB_.call hS hU hW (fun q h => hFc q h), hW_.call hS hU hW (fun q h => hFc q h), (hZ.sub [0] [] rfl rfl).call hS hU hW (fun q h => hFc q h)⟩⟩ rfl rfl hl.1 rfl (lv_room (Nat.le_of_ble_eq_true rfl)) dX3_doLooks_8 ⟨Nat.le_of_ble_eq_true rfl, Nat.le_of_ble_eq_true rfl⟩) hS (fun q _ h => hFc q h) hFc (fun r_10 u tC H1 locs htC hvm hw_11 hB hz1 hk1 hS => ?_)
  obtain ⟨mdc9_12, sz_9_13, fEl9_14⟩ := u
  try dsimp only at hw_11 hB
  obtain ⟨hP1, hK1, hD1⟩ := hB
  rw [htC] at hP1
  have hK1 := va_K.moved hvm.symm hK1
  obtain ⟨hP, hD⟩ := va_join (wr := []) (w1 := [(zo1iri bo mdc9_12 aEl9_4 (nI sz_9_13)), (zaR aEl9_4 cEl9_5 10 fEl9_14)]) hP hD [0, 1] [] rfl rfl (by decide) (by decide) hk1 hFc hP1 hD1
  have hK := (hK.sub (tys' := []) [] rfl).app hK1
  generalize H1 = H at hP hS ⊢
  have hP : va_P (dC, dI) vwCl [(zo1iri bo mdc9_12 aEl9_4 (nI sz_9_13)), (zaR aEl9_4 cEl9_5 10 fEl9_14)] H := hP
  have hD : va_D A [(zo1iri bo mdc9_12 aEl9_4 (nI sz_9_13)), (zaR aEl9_4 cEl9_5 10 fEl9_14)] := hD
  have hK : va_K (dC, dI) vwCl [(cEl9_5, .object "java/lang/Object")] s := hK
  obtain ⟨er_15, e_16, hL_17⟩ := hw_11
  obtain rfl := (e_16).symm
  subst er_15
  refine lv_iconst (v := 2) hx hb dX3_doLooks_11 (by decide) ?_
  refine lv_imul hx hb dX3_doLooks_12 ?_
  rw [hQ]
  have hP9 := hP.sub (ws' := [(zo1iri bo mdc9_12 aEl9_4 (nI (1 + 3))), (zaR aEl9_4 cEl9_5 10 fEl9_14)]) [0, 1] rfl
  have hD9 := hD.sub (ws' := [(zo1iri bo mdc9_12 aEl9_4 (nI (1 + 3))), (zaR aEl9_4 cEl9_5 10 fEl9_14)]) [0, 1] (by decide) rfl
  have hK9 := hK.sub (tys' := [(cEl9_5, .object "java/lang/Object")]) [0] rfl
  refine W.widen (k := 1) (n := 10) (by omega) (by omega) ?_
  exact W.iret (v := ((x * 3 + nI i0) - sv) * 2) hx hb hr (fun tQ htQ hWQ => ⟨⟨(((x * 3 + nI i0) - sv) * 2), (mdc9_12, aEl9_4, cEl9_5, (1 + 3), fEl9_14), rfl, ⟨rfl, by omega, hL_17⟩, by rw [htQ]; exact hP9, va_K.moved hWQ.alike hK9, hD9⟩, hS.F htQ⟩) hS.2.2 dX3_doLooks_13

set_option maxHeartbeats 4000000 in
set_option maxRecDepth 100000 in
theorem c_X10_doLooks_X10_1 (l : Launch) (dC : Nat → ClassId) (dI : Nat → Nat → Nat) (ad : Nat → Nat) (cB bS : Nat)    (bo : Nat) (aEl : Nat) (i0 : Nat) (sk : Int32) (sv : Int32) (scl : Int32) (x : Int32) (cEl : ClassId) (fEl : Nat → Option Nat) (a0 : Nat) (sz_ : Nat) (mdc : Int32) (tl : List Nat) (sz : Nat) (hsz : sz_ + 7 ≤ 10) (zL : okL ad fEl sz_ tl) : Met l yX10_doLooks wsX10_doLooks ({ frames := 7, cells := 0, slots := 0, locals := 153 } : Room) (va_Pc [.ref a0, .int x, .ref bo] (fun U => U.heap.size = sz ∧ va_P (dC, dI) vwCl [(zo1iri bo mdc aEl (nI sz_)), (zaR aEl cEl 10 fEl)] U.heap ∧ va_K (dC, dI) vwCl [(cEl, .object "java/lang/Object")] U ∧ va_D (fun _ => True) [(zo1iri bo mdc aEl (nI sz_)), (zaR aEl cEl 10 fEl)] ∧ Gi ad cB bS (va_A [(zo1iri bo mdc aEl (nI sz_)), (zaR aEl cEl 10 fEl)] sz) U ∧ Gb (va_A [(zo1iri bo mdc aEl (nI sz_)), (zaR aEl cEl 10 fEl)] sz) U ∧ Gw (va_A [(zo1iri bo mdc aEl (nI sz_)), (zaR aEl cEl 10 fEl)] sz) U ∧ Fz dC dI [(zo12iiii a0 sk (nI i0) sv scl)] [] (va_A [(zo1iri bo mdc aEl (nI sz_)), (zaR aEl cEl 10 fEl)] sz) U)) (va_Qi (fun (r : Int32) (u : (Int32) × (Nat) × (Nat → Option Nat)) => match u with | (mdc9, sz_9, fEl9) => r = ((((x - 1) * 3 + nI i0) - sv) * 2) + (2 * 3 + nI i0) ∧ sz_9 = sz_ + 7 ∧ okL ad fEl9 sz_9 (tl ++ [41, 3, 2, 11, 1, 11, 1])) (fun (u : (Int32) × (Nat) × (Nat → Option Nat)) (t : State) => match u with | (mdc9, sz_9, fEl9) => va_P (dC, dI) vwCl [(zo1iri bo mdc9 aEl (nI sz_9)), (zaR aEl cEl 10 fEl9)] t.heap ∧ va_K (dC, dI) vwCl [(cEl, .object "java/lang/Object")] t ∧ va_D (va_A [(zo1iri bo mdc aEl (nI sz_)), (zaR aEl cEl 10 fEl)] sz) [(zo1iri bo mdc9 aEl (nI sz_9)), (zaR aEl cEl 10 fEl9)]) (va_A [(zo1iri bo mdc aEl (nI sz_)), (zaR aEl cEl 10 fEl)] sz)) 0 0 (va_A [(zo1iri bo mdc aEl (nI sz_)), (zaR aEl cEl 10 fEl)] sz) := by
  refine met_ofQ (cc := cX10_doLooks) (maxL := 4) (ret := (some .int)) (by decide) rfl ?_
  intro p e s m args below meth c s₁ Q B hml hv hQ
  obtain ⟨rfl, hsz, hP, hK, hD0, hI_, hB_, hW_, hZ⟩ := hv
  have hx := B.exec
  have hb := B.bytes
  have hr := B.returns
  have hts := atoms_spec (ws := wsX10_doLooks) B.pre
  have hown : s.vm.findClass RX10 = some m.cls := findClass_of_methodNamed B.named
  have hlocks := B.notSynchronized
  subst hsz
  have hD := hD0.self (sz := s.heap.size)
  generalize hAe : va_A [(zo1iri bo mdc aEl (nI sz_)), (zaR aEl cEl 10 fEl)] s.heap.size = A at hD hQ hI_ hB_ hW_ hZ ⊢
  have hA : ∀ q : Nat, s.heap.size ≤ q → A q := fun q h => by rw [← hAe]; exact Or.inr h
  have hS : va_S A s.heap s.heap [] := va_S.rf
  have hl := lv_entry [.ref a0, .int x, .ref bo] (n := 4) (Nat.le_of_ble_eq_true rfl)
  rw [lg_entry_eq]
  generalize (lg_sl [.ref a0, .int x, .ref bo] ++ List.replicate (4 - (lg_sl [.ref a0, .int x, .ref bo]).length) Slot.unset).toArray = ls at hl ⊢
  generalize hag : ([.ref a0, .int x, .ref bo] : List Value).toArray = args at hts hQ ⊢
  have hl : lv_has ls 4 [(0, .ref a0), (1, .int x), (2, .ref bo)] := hl
  obtain ⟨H, hH⟩ : ∃ H : Heap, H = s.heap := ⟨_, rfl⟩
  rw [← hH] at hP
  rw [← hH]
  have hS : va_S A s.heap H [] := by rw [hH]; exact hS
  obtain ⟨locs, hlo⟩ : ∃ L : List Loc, L = [] := ⟨_, rfl⟩
  rw [← hlo] at hS
  rw [← hlo]
  clear hH hlo
  refine lv_bipush (v := 41) hx hb dX10_doLooks_0 (by decide) ?_
  refine lv_aload_n hx hb dX10_doLooks_2 rfl (lv_at hl 2 rfl) ?_
  have hPc := hP.sub (ws' := [(zo1iri bo mdc aEl (nI sz_)), (zaR aEl cEl 10 fEl)]) [0, 1] rfl
  have hDc := hD.sub (ws' := [(zo1iri bo mdc aEl (nI sz_)), (zaR aEl cEl 10 fEl)]) [0, 1] (by decide) rfl
  have hKc := hK.sub (tys' := [(cEl, .object "java/lang/Object")]) [0] rfl
  have hFc := va_free (wc := [(zo1iri bo mdc aEl (nI sz_)), (zaR aEl cEl 10 fEl)]) hD hS hA [0, 1] rfl
  refine va_callv (va_runU2 (As := [.int 41, .ref bo]) (rest := []) ⟨hx, hb, hml, hown, hts⟩ (c_begin1 l dC dI ad cB bS bo aEl 41 cEl fEl sz_ mdc tl H.size (by omega) (by omega) (zL)) (u2_cw (x := xb10) 2 hB_ inb10 rfl rfl rfl rfl rfl (by decide +kernel) ⟨Nat.le_of_ble_eq_true rfl, Nat.le_of_ble_eq_true rfl⟩) ⟨fun a U g mk q => by obtain ⟨q0, q1, qP, qK, qD, qhI_⟩ := q; exact ⟨q0, mvz g mk a q1, mvP g mk a qP, mvK g mk a qK, qD, qhI_.mv g mk a⟩, fun U hU hW => ⟨rfl, by rw [hU], by rw [hU]; exact hPc, va_K.moved hW.alike hKc, hDc.weaken (fun _ _ _ _ => trivial), hI_.call hS hU hW (fun q h => hFc q h)⟩⟩ rfl rfl hl.1 rfl (lv_room (Nat.le_of_ble_eq_true rfl)) dX10_doLooks_3 ⟨Nat.le_of_ble_eq_true rfl, Nat.le_of_ble_eq_true rfl⟩) hS (fun q _ h => hFc q h) hFc (fun u tC H1 locs htC hvm hw_2 hB hz1 hk1 hS => ?_)
  obtain ⟨mdc9_3, sz_9_4, fEl9_5⟩ := u
  try dsimp only at hw_2 hB
  obtain ⟨hP1, hK1, hD1⟩ := hB
  rw [htC] at hP1
  have hK1 := va_K.moved hvm.symm hK1
  obtain ⟨hP, hD⟩ := va_join (wr := []) (w1 := [(zo1iri bo mdc9_3 aEl (nI sz_9_4)), (zaR aEl cEl 10 fEl9_5)]) hP hD [0, 1] [] rfl rfl (by decide) (by decide) hk1 hFc hP1 hD1
  have hK := (hK.sub (tys' := []) [] rfl).app hK1
  generalize H1 = H at hP hS ⊢
  have hP : va_P (dC, dI) vwCl [(zo1iri bo mdc9_3 aEl (nI sz_9_4)), (zaR aEl cEl 10 fEl9_5)] H := hP
  have hD : va_D A [(zo1iri bo mdc9_3 aEl (nI sz_9_4)), (zaR aEl cEl 10 fEl9_5)] := hD
  have hK : va_K (dC, dI) vwCl [(cEl, .object "java/lang/Object")] s := hK
  obtain ⟨e_6, hL_7⟩ := hw_2
  obtain rfl := (e_6).symm
  refine lv_aload_n hx hb dX10_doLooks_6 rfl (lv_at hl 0 rfl) ?_
  refine lv_iload_n hx hb dX10_doLooks_7 rfl (lv_at hl 1 rfl) ?_
  refine lv_iconst (v := 1) hx hb dX10_doLooks_8 (by decide) ?_
  refine lv_isub hx hb dX10_doLooks_9 ?_
  refine lv_aload_n hx hb dX10_doLooks_10 rfl (lv_at hl 2 rfl) ?_
  have hPc := hP.sub (ws' := [(zo1iri bo mdc9_3 aEl (nI (sz_ + 1))), (zaR aEl cEl 10 fEl9_5)]) [0, 1] rfl
  have hDc := hD.sub (ws' := [(zo1iri bo mdc9_3 aEl (nI (sz_ + 1))), (zaR aEl cEl 10 fEl9_5)]) [0, 1] (by decide) rfl
  have hKc := hK.sub (tys' := [(cEl, .object "java/lang/Object")]) [0] rfl
  have hFc := va_free (wc := [(zo1iri bo mdc9_3 aEl (nI (sz_ + 1))), (zaR aEl cEl 10 fEl9_5)]) hD hS hA [0, 1] rfl
  refine va_calli (va_runS2 (hZ.2.1.1 12 (RX10, TX10, 4) rfl).2 (As := [.int (x - 1), .ref bo]) (rest := []) ⟨hx, hb, hml, hown, hts⟩ (c_X3_doLooks_X10_1 l dC dI ad cB bS    bo aEl i0 sk sv scl (x - 1) cEl fEl9_5 a0 (sz_ + 1) mdc9_3 (tl ++ [41]) H.size (by omega) (hL_7)) (s2_cw (x := x10l) 2 hW_ in10l rfl rfl rfl rfl rfl (by decide +kernel) ⟨Nat.le_of_ble_eq_true rfl, Nat.le_of_ble_eq_true rfl⟩) ⟨fun a U g mk q => by obtain ⟨q0, q1, qP, qK, qD, qhI_, qhB_, qhW_, qhZ⟩ := q; exact ⟨q0, mvz g mk a q1, mvP g mk a qP, mvK g mk a qK, qD, qhI_.mv g mk a, qhB_.mv g mk a, qhW_.mv g mk a, qhZ.mv g mk a⟩, va_recv hZ.2.1 (hZ.P hS) (ci := 12) (q := (RX10, TX10, 4)) (q0 := 0) rfl rfl, fun U hU hW => ⟨rfl, by rw [hU], by rw [hU]; exact hPc, va_K.moved hW.alike hKc, hDc.weaken (fun _ _ _ _ => trivial), hI_.call hS hU hW (fun q h => hFc q h), hB_.call hS hU hW (fun q h => hFc q h), hW_.call hS hU hW (fun q h => hFc q h), (hZ.sub [0] [] rfl rfl).call hS hU hW (fun q h => hFc q h)⟩⟩ rfl rfl hl.1 rfl (lv_room (Nat.le_of_ble_eq_true rfl)) dX10_doLooks_11 ⟨Nat.le_of_ble_eq_true rfl, Nat.le_of_ble_eq_true rfl⟩) hS (fun q _ h => hFc q h) hFc (fun r_8 u tC H1 locs htC hvm hw_9 hB hz1 hk1 hS => ?_)
  obtain ⟨mdc9_10, sz_9_11, fEl9_12⟩ := u
  try dsimp only at hw_9 hB
  obtain ⟨hP1, hK1, hD1⟩ := hB
  rw [htC] at hP1
  have hK1 := va_K.moved hvm.symm hK1
  obtain ⟨hP, hD⟩ := va_join (wr := []) (w1 := [(zo1iri bo mdc9_10 aEl (nI sz_9_11)), (zaR aEl cEl 10 fEl9_12)]) hP hD [0, 1] [] rfl rfl (by decide) (by decide) hk1 hFc hP1 hD1
  have hK := (hK.sub (tys' := []) [] rfl).app hK1
  generalize H1 = H at hP hS ⊢
  have hP : va_P (dC, dI) vwCl [(zo1iri bo mdc9_10 aEl (nI sz_9_11)), (zaR aEl cEl 10 fEl9_12)] H := hP
  have hD : va_D A [(zo1iri bo mdc9_10 aEl (nI sz_9_11)), (zaR aEl cEl 10 fEl9_12)] := hD
  have hK : va_K (dC, dI) vwCl [(cEl, .object "java/lang/Object")] s := hK
  obtain ⟨er_13, e_14, hL_15⟩ := hw_9
  obtain rfl := (e_14).symm
  subst er_13
  refine lv_istore_n (lv' := [(3, .int ((((x - 1) * 3 + nI i0) - sv) * 2)), (0, .ref a0), (1, .int x), (2, .ref bo)]) hx hb dX10_doLooks_14 rfl hl (by decide) rfl (fun ls hl => ?_)
  refine lv_iload_n hx hb dX10_doLooks_15 rfl (lv_at hl 0 rfl) ?_
  refine lv_aload_n hx hb dX10_doLooks_16 rfl (lv_at hl 1 rfl) ?_
  refine lv_iconst (v := 2) hx hb dX10_doLooks_17 (by decide) ?_
  refine lv_aload_n hx hb dX10_doLooks_18 rfl (lv_at hl 3 rfl) ?_
  have hPc := hP.sub (ws' := [(zo1iri bo mdc9_10 aEl (nI ((sz_ + 1) + 4))), (zaR aEl cEl 10 fEl9_12)]) [0, 1] rfl
  have hDc := hD.sub (ws' := [(zo1iri bo mdc9_10 aEl (nI ((sz_ + 1) + 4))), (zaR aEl cEl 10 fEl9_12)]) [0, 1] (by decide) rfl
  have hKc := hK.sub (tys' := [(cEl, .object "java/lang/Object")]) [0] rfl
  have hFc := va_free (wc := [(zo1iri bo mdc9_10 aEl (nI ((sz_ + 1) + 4))), (zaR aEl cEl 10 fEl9_12)]) hD hS hA [0, 1] rfl
  refine va_calli (va_runU (As := [.int 2, .ref bo]) (rest := [.int ((((x - 1) * 3 + nI i0) - sv) * 2)]) ⟨hx, hb, hml, hown, hts⟩ (c_X4_doSees_X10_1 l dC dI ad cB bS    bo aEl i0 sk sv scl 2 cEl fEl9_12 a0 ((sz_ + 1) + 4) mdc9_10 ((tl ++ [41]) ++ [3, 2, 11, 1]) H.size (by omega) (hL_15)) (va_cwU 2 hts gX10_doLooks_X4_doSees_u44X10 rfl rfl rfl rfl (by decide +kernel) ⟨Nat.le_of_ble_eq_true rfl, Nat.le_of_ble_eq_true rfl⟩) ⟨fun a U g mk q => by obtain ⟨q0, q1, qP, qK, qD, qhI_, qhB_, qhW_, qhZ⟩ := q; exact ⟨q0, mvz g mk a q1, mvP g mk a qP, mvK g mk a qK, qD, qhI_.mv g mk a, qhB_.mv g mk a, qhW_.mv g mk a, qhZ.mv g mk a⟩, va_recv hZ.2.1 (hZ.P hS) (ci := 12) (q := (RX10, TX10, 4)) (q0 := 0) rfl rfl, fun U hU hW => ⟨rfl, by rw [hU], by rw [hU]; exact hPc, va_K.moved hW.alike hKc, hDc.weaken (fun _ _ _ _ => trivial), hI_.call hS hU hW (fun q h => hFc q h), hB_.call hS hU hW (fun q h => hFc q h), hW_.call hS hU hW (fun q h => hFc q h), (hZ.sub [0] [] rfl rfl).call hS hU hW (fun q h => hFc q h)⟩⟩ rfl rfl hl.1 rfl (lv_room (Nat.le_of_ble_eq_true rfl)) dX10_doLooks_19 ⟨Nat.le_of_ble_eq_true rfl, Nat.le_of_ble_eq_true rfl⟩) hS (fun q _ h => hFc q h) hFc (fun r_16 u tC H1 locs htC hvm hw_17 hB hz1 hk1 hS => ?_)
  obtain ⟨mdc9_18, sz_9_19, fEl9_20⟩ := u
  try dsimp only at hw_17 hB
  obtain ⟨hP1, hK1, hD1⟩ := hB
  rw [htC] at hP1
  have hK1 := va_K.moved hvm.symm hK1
  obtain ⟨hP, hD⟩ := va_join (wr := []) (w1 := [(zo1iri bo mdc9_18 aEl (nI sz_9_19)), (zaR aEl cEl 10 fEl9_20)]) hP hD [0, 1] [] rfl rfl (by decide) (by decide) hk1 hFc hP1 hD1
  have hK := (hK.sub (tys' := []) [] rfl).app hK1
  generalize H1 = H at hP hS ⊢
  have hP : va_P (dC, dI) vwCl [(zo1iri bo mdc9_18 aEl (nI sz_9_19)), (zaR aEl cEl 10 fEl9_20)] H := hP
  have hD : va_D A [(zo1iri bo mdc9_18 aEl (nI sz_9_19)), (zaR aEl cEl 10 fEl9_20)] := hD
  have hK : va_K (dC, dI) vwCl [(cEl, .object "java/lang/Object")] s := hK
  obtain ⟨er_21, e_22, hL_23⟩ := hw_17
  obtain rfl := (e_22).symm
  subst er_21
  refine lv_iadd hx hb dX10_doLooks_22 ?_
  rw [hQ]
  have hP9 := hP.sub (ws' := [(zo1iri bo mdc9_18 aEl (nI (((sz_ + 1) + 4) + 2))), (zaR aEl cEl 10 fEl9_20)]) [0, 1] rfl
  have hD9 := hD.sub (ws' := [(zo1iri bo mdc9_18 aEl (nI (((sz_ + 1) + 4) + 2))), (zaR aEl cEl 10 fEl9_20)]) [0, 1] (by decide) rfl
  have hK9 := hK.sub (tys' := [(cEl, .object "java/lang/Object")]) [0] rfl
  exact W.iret (v := ((((x - 1) * 3 + nI i0) - sv) * 2) + (2 * 3 + nI i0)) hx hb hr (fun tQ htQ hWQ => ⟨⟨(((((x - 1) * 3 + nI i0) - sv) * 2) + (2 * 3 + nI i0)), (mdc9_18, (((sz_ + 1) + 4) + 2), fEl9_20), rfl, ⟨rfl, by omega, by have h9 := okL_as (okL_as (hL_23)); exact h9⟩, by rw [htQ]; exact hP9, va_K.moved hWQ.alike hK9, hD9⟩, hS.F htQ⟩) hS.2.2 dX10_doLooks_23

set_option maxHeartbeats 4000000 in
set_option maxRecDepth 100000 in
theorem c_X10_doLooks_X10_0 (l : Launch) (dC : Nat → ClassId) (dI : Nat → Nat → Nat) (ad : Nat → Nat) (cB bS : Nat)    (bo : Nat) (i0 : Nat) (sk : Int32) (sv : Int32) (scl : Int32) (x : Int32) (a0 : Nat) (mdc : Int32) (sz : Nat) : Met l yX10_doLooks wsX10_doLooks ({ frames := 7, cells := 1, slots := 10, locals := 153 } : Room) (va_Pc [.ref a0, .int x, .ref bo] (fun U => U.heap.size = sz ∧ va_P (dC, dI) vwCl [(zo1iri bo mdc bS 0)] U.heap ∧ va_K (dC, dI) vwCl [] U ∧ va_D (fun _ => True) [(zo1iri bo mdc bS 0)] ∧ Gi ad cB bS (va_A [(zo1iri bo mdc bS 0)] sz) U ∧ Gb (va_A [(zo1iri bo mdc bS 0)] sz) U ∧ Gw (va_A [(zo1iri bo mdc bS 0)] sz) U ∧ Fz dC dI [(zo12iiii a0 sk (nI i0) sv scl)] [] (va_A [(zo1iri bo mdc bS 0)] sz) U)) (va_Qi (fun (r : Int32) (u : (Int32) × (Nat) × (ClassId) × (Nat) × (Nat → Option Nat)) => match u with | (mdc9, aEl9, cEl9, sz_9, fEl9) => r = ((((x - 1) * 3 + nI i0) - sv) * 2) + (2 * 3 + nI i0) ∧ sz_9 = 7 ∧ okL ad fEl9 sz_9 [41, 3, 2, 11, 1, 11, 1]) (fun (u : (Int32) × (Nat) × (ClassId) × (Nat) × (Nat → Option Nat)) (t : State) => match u with | (mdc9, aEl9, cEl9, sz_9, fEl9) => va_P (dC, dI) vwCl [(zo1iri bo mdc9 aEl9 (nI sz_9)), (zaR aEl9 cEl9 10 fEl9)] t.heap ∧ va_K (dC, dI) vwCl [(cEl9, .object "java/lang/Object")] t ∧ va_D (va_A [(zo1iri bo mdc bS 0)] sz) [(zo1iri bo mdc9 aEl9 (nI sz_9)), (zaR aEl9 cEl9 10 fEl9)]) (va_A [(zo1iri bo mdc bS 0)] sz)) 1 10 (va_A [(zo1iri bo mdc bS 0)] sz) := by
  refine met_ofQ (cc := cX10_doLooks) (maxL := 4) (ret := (some .int)) (by decide) rfl ?_
  intro p e s m args below meth c s₁ Q B hml hv hQ
  obtain ⟨rfl, hsz, hP, hK, hD0, hI_, hB_, hW_, hZ⟩ := hv
  have hx := B.exec
  have hb := B.bytes
  have hr := B.returns
  have hts := atoms_spec (ws := wsX10_doLooks) B.pre
  have hown : s.vm.findClass RX10 = some m.cls := findClass_of_methodNamed B.named
  have hlocks := B.notSynchronized
  subst hsz
  have hD := hD0.self (sz := s.heap.size)
  generalize hAe : va_A [(zo1iri bo mdc bS 0)] s.heap.size = A at hD hQ hI_ hB_ hW_ hZ ⊢
  have hA : ∀ q : Nat, s.heap.size ≤ q → A q := fun q h => by rw [← hAe]; exact Or.inr h
  have hS : va_S A s.heap s.heap [] := va_S.rf
  have hl := lv_entry [.ref a0, .int x, .ref bo] (n := 4) (Nat.le_of_ble_eq_true rfl)
  rw [lg_entry_eq]
  generalize (lg_sl [.ref a0, .int x, .ref bo] ++ List.replicate (4 - (lg_sl [.ref a0, .int x, .ref bo]).length) Slot.unset).toArray = ls at hl ⊢
  generalize hag : ([.ref a0, .int x, .ref bo] : List Value).toArray = args at hts hQ ⊢
  have hl : lv_has ls 4 [(0, .ref a0), (1, .int x), (2, .ref bo)] := hl
  obtain ⟨H, hH⟩ : ∃ H : Heap, H = s.heap := ⟨_, rfl⟩
  rw [← hH] at hP
  rw [← hH]
  have hS : va_S A s.heap H [] := by rw [hH]; exact hS
  obtain ⟨locs, hlo⟩ : ∃ L : List Loc, L = [] := ⟨_, rfl⟩
  rw [← hlo] at hS
  rw [← hlo]
  clear hH hlo
  refine lv_bipush (v := 41) hx hb dX10_doLooks_0 (by decide) ?_
  refine lv_aload_n hx hb dX10_doLooks_2 rfl (lv_at hl 2 rfl) ?_
  have hPc := hP.sub (ws' := [(zo1iri bo mdc bS 0)]) [0] rfl
  have hDc := hD.sub (ws' := [(zo1iri bo mdc bS 0)]) [0] (by decide) rfl
  have hKc := hK.sub (tys' := []) [] rfl
  have hFc := va_free (wc := [(zo1iri bo mdc bS 0)]) hD hS hA [0] rfl
  refine va_callv (va_runU2 (As := [.int 41, .ref bo]) (rest := []) ⟨hx, hb, hml, hown, hts⟩ (c_begin0 l dC dI ad cB bS bo mdc 41 H.size (by omega)) (u2_cw (x := xb10) 2 hB_ inb10 rfl rfl rfl rfl rfl (by decide +kernel) ⟨Nat.le_of_ble_eq_true rfl, Nat.le_of_ble_eq_true rfl⟩) ⟨fun a U g mk q => by obtain ⟨q0, q1, qP, qK, qD, qhI_⟩ := q; exact ⟨q0, mvz g mk a q1, mvP g mk a qP, mvK g mk a qK, qD, qhI_.mv g mk a⟩, fun U hU hW => ⟨rfl, by rw [hU], by rw [hU]; exact hPc, va_K.moved hW.alike hKc, hDc.weaken (fun _ _ _ _ => trivial), hI_.call hS hU hW (fun q h => hFc q h)⟩⟩ rfl rfl hl.1 rfl (lv_room (Nat.le_of_ble_eq_true rfl)) dX10_doLooks_3 ⟨Nat.le_of_ble_eq_true rfl, Nat.le_of_ble_eq_true rfl⟩) hS (fun q _ h => hFc q h) hFc (fun u tC H1 locs htC hvm hw_2 hB hz1 hk1 hS => ?_)
  obtain ⟨mdc9_3, aEl9_4, cEl9_5, sz_9_6, fEl9_7⟩ := u
  try dsimp only at hw_2 hB
  obtain ⟨hP1, hK1, hD1⟩ := hB
  rw [htC] at hP1
  have hK1 := va_K.moved hvm.symm hK1
  obtain ⟨hP, hD⟩ := va_join (wr := []) (w1 := [(zo1iri bo mdc9_3 aEl9_4 (nI sz_9_6)), (zaR aEl9_4 cEl9_5 10 fEl9_7)]) hP hD [0] [] rfl rfl (by decide) (by decide) hk1 hFc hP1 hD1
  have hK := (hK.sub (tys' := []) [] rfl).app hK1
  generalize H1 = H at hP hS ⊢
  have hP : va_P (dC, dI) vwCl [(zo1iri bo mdc9_3 aEl9_4 (nI sz_9_6)), (zaR aEl9_4 cEl9_5 10 fEl9_7)] H := hP
  have hD : va_D A [(zo1iri bo mdc9_3 aEl9_4 (nI sz_9_6)), (zaR aEl9_4 cEl9_5 10 fEl9_7)] := hD
  have hK : va_K (dC, dI) vwCl [(cEl9_5, .object "java/lang/Object")] s := hK
  refine W.widen (k := 1) (n := 10) (by omega) (by omega) ?_
  obtain ⟨e_8, hL_9⟩ := hw_2
  obtain rfl := (e_8).symm
  refine lv_aload_n hx hb dX10_doLooks_6 rfl (lv_at hl 0 rfl) ?_
  refine lv_iload_n hx hb dX10_doLooks_7 rfl (lv_at hl 1 rfl) ?_
  refine lv_iconst (v := 1) hx hb dX10_doLooks_8 (by decide) ?_
  refine lv_isub hx hb dX10_doLooks_9 ?_
  refine lv_aload_n hx hb dX10_doLooks_10 rfl (lv_at hl 2 rfl) ?_
  have hPc := hP.sub (ws' := [(zo1iri bo mdc9_3 aEl9_4 (nI 1)), (zaR aEl9_4 cEl9_5 10 fEl9_7)]) [0, 1] rfl
  have hDc := hD.sub (ws' := [(zo1iri bo mdc9_3 aEl9_4 (nI 1)), (zaR aEl9_4 cEl9_5 10 fEl9_7)]) [0, 1] (by decide) rfl
  have hKc := hK.sub (tys' := [(cEl9_5, .object "java/lang/Object")]) [0] rfl
  have hFc := va_free (wc := [(zo1iri bo mdc9_3 aEl9_4 (nI 1)), (zaR aEl9_4 cEl9_5 10 fEl9_7)]) hD hS hA [0, 1] rfl
  refine va_calli (va_runS2 (hZ.2.1.1 12 (RX10, TX10, 4) rfl).2 (As := [.int (x - 1), .ref bo]) (rest := []) ⟨hx, hb, hml, hown, hts⟩ (c_X3_doLooks_X10_1 l dC dI ad cB bS    bo aEl9_4 i0 sk sv scl (x - 1) cEl9_5 fEl9_7 a0 1 mdc9_3 ([41]) H.size (by omega) (hL_9)) (s2_cw (x := x10l) 2 hW_ in10l rfl rfl rfl rfl rfl (by decide +kernel) ⟨Nat.le_of_ble_eq_true rfl, Nat.le_of_ble_eq_true rfl⟩) ⟨fun a U g mk q => by obtain ⟨q0, q1, qP, qK, qD, qhI_, qhB_, qhW_, qhZ⟩ := q; exact ⟨q0, mvz g mk a q1, mvP g mk a qP, mvK g mk a qK, qD, qhI_.mv g mk a, qhB_.mv g mk a, qhW_.mv g mk a, qhZ.mv g mk a⟩, va_recv hZ.2.1 (hZ.P hS) (ci := 12) (q := (RX10, TX10, 4)) (q0 := 0) rfl rfl, fun U hU hW => ⟨rfl, by rw [hU], by rw [hU]; exact hPc, va_K.moved hW.alike hKc, hDc.weaken (fun _ _ _ _ => trivial), hI_.call hS hU hW (fun q h => hFc q h), hB_.call hS hU hW (fun q h => hFc q h), hW_.call hS hU hW (fun q h => hFc q h), (hZ.sub [0] [] rfl rfl).call hS hU hW (fun q h => hFc q h)⟩⟩ rfl rfl hl.1 rfl (lv_room (Nat.le_of_ble_eq_true rfl)) dX10_doLooks_11 ⟨Nat.le_of_ble_eq_true rfl, Nat.le_of_ble_eq_true rfl⟩) hS (fun q _ h => hFc q h) hFc (fun r_10 u tC H1 locs htC hvm hw_11 hB hz1 hk1 hS => ?_)
  obtain ⟨mdc9_12, sz_9_13, fEl9_14⟩ := u
  try dsimp only at hw_11 hB
  obtain ⟨hP1, hK1, hD1⟩ := hB
  rw [htC] at hP1
  have hK1 := va_K.moved hvm.symm hK1
  obtain ⟨hP, hD⟩ := va_join (wr := []) (w1 := [(zo1iri bo mdc9_12 aEl9_4 (nI sz_9_13)), (zaR aEl9_4 cEl9_5 10 fEl9_14)]) hP hD [0, 1] [] rfl rfl (by decide) (by decide) hk1 hFc hP1 hD1
  have hK := (hK.sub (tys' := []) [] rfl).app hK1
  generalize H1 = H at hP hS ⊢
  have hP : va_P (dC, dI) vwCl [(zo1iri bo mdc9_12 aEl9_4 (nI sz_9_13)), (zaR aEl9_4 cEl9_5 10 fEl9_14)] H := hP
  have hD : va_D A [(zo1iri bo mdc9_12 aEl9_4 (nI sz_9_13)), (zaR aEl9_4 cEl9_5 10 fEl9_14)] := hD
  have hK : va_K (dC, dI) vwCl [(cEl9_5, .object "java/lang/Object")] s := hK
  obtain ⟨er_15, e_16, hL_17⟩ := hw_11
  obtain rfl := (e_16).symm
  subst er_15
  refine lv_istore_n (lv' := [(3, .int ((((x - 1) * 3 + nI i0) - sv) * 2)), (0, .ref a0), (1, .int x), (2, .ref bo)]) hx hb dX10_doLooks_14 rfl hl (by decide) rfl (fun ls hl => ?_)
  refine lv_iload_n hx hb dX10_doLooks_15 rfl (lv_at hl 0 rfl) ?_
  refine lv_aload_n hx hb dX10_doLooks_16 rfl (lv_at hl 1 rfl) ?_
  refine lv_iconst (v := 2) hx hb dX10_doLooks_17 (by decide) ?_
  refine lv_aload_n hx hb dX10_doLooks_18 rfl (lv_at hl 3 rfl) ?_
  have hPc := hP.sub (ws' := [(zo1iri bo mdc9_12 aEl9_4 (nI (1 + 4))), (zaR aEl9_4 cEl9_5 10 fEl9_14)]) [0, 1] rfl
  have hDc := hD.sub (ws' := [(zo1iri bo mdc9_12 aEl9_4 (nI (1 + 4))), (zaR aEl9_4 cEl9_5 10 fEl9_14)]) [0, 1] (by decide) rfl
  have hKc := hK.sub (tys' := [(cEl9_5, .object "java/lang/Object")]) [0] rfl
  have hFc := va_free (wc := [(zo1iri bo mdc9_12 aEl9_4 (nI (1 + 4))), (zaR aEl9_4 cEl9_5 10 fEl9_14)]) hD hS hA [0, 1] rfl
  refine va_calli (va_runU (As := [.int 2, .ref bo]) (rest := [.int ((((x - 1) * 3 + nI i0) - sv) * 2)]) ⟨hx, hb, hml, hown, hts⟩ (c_X4_doSees_X10_1 l dC dI ad cB bS    bo aEl9_4 i0 sk sv scl 2 cEl9_5 fEl9_14 a0 (1 + 4) mdc9_12 ([41] ++ [3, 2, 11, 1]) H.size (by omega) (hL_17)) (va_cwU 2 hts gX10_doLooks_X4_doSees_u44X10 rfl rfl rfl rfl (by decide +kernel) ⟨Nat.le_of_ble_eq_true rfl, Nat.le_of_ble_eq_true rfl⟩) ⟨fun a U g mk q => by obtain ⟨q0, q1, qP, qK, qD, qhI_, qhB_, qhW_, qhZ⟩ := q; exact ⟨q0, mvz g mk a q1, mvP g mk a qP, mvK g mk a qK, qD, qhI_.mv g mk a, qhB_.mv g mk a, qhW_.mv g mk a, qhZ.mv g mk a⟩, va_recv hZ.2.1 (hZ.P hS) (ci := 12) (q := (RX10, TX10, 4)) (q0 := 0) rfl rfl, fun U hU hW => ⟨rfl, by rw [hU], by rw [hU]; exact hPc, va_K.moved hW.alike hKc, hDc.weaken (fun _ _ _ _ => trivial), hI_.call hS hU hW (fun q h => hFc q h), hB_.call hS hU hW (fun q h => hFc q h), hW_.call hS hU hW (fun q h => hFc q h), (hZ.sub [0] [] rfl rfl).call hS hU hW (fun q h => hFc q h)⟩⟩ rfl rfl hl.1 rfl (lv_room (Nat.le_of_ble_eq_true rfl)) dX10_doLooks_19 ⟨Nat.le_of_ble_eq_true rfl, Nat.le_of_ble_eq_true rfl⟩) hS (fun q _ h => hFc q h) hFc (fun r_18 u tC H1 locs htC hvm hw_19 hB hz1 hk1 hS => ?_)
  obtain ⟨mdc9_20, sz_9_21, fEl9_22⟩ := u
  try dsimp only at hw_19 hB
  obtain ⟨hP1, hK1, hD1⟩ := hB
  rw [htC] at hP1
  have hK1 := va_K.moved hvm.symm hK1
  obtain ⟨hP, hD⟩ := va_join (wr := []) (w1 := [(zo1iri bo mdc9_20 aEl9_4 (nI sz_9_21)), (zaR aEl9_4 cEl9_5 10 fEl9_22)]) hP hD [0, 1] [] rfl rfl (by decide) (by decide) hk1 hFc hP1 hD1
  have hK := (hK.sub (tys' := []) [] rfl).app hK1
  generalize H1 = H at hP hS ⊢
  have hP : va_P (dC, dI) vwCl [(zo1iri bo mdc9_20 aEl9_4 (nI sz_9_21)), (zaR aEl9_4 cEl9_5 10 fEl9_22)] H := hP
  have hD : va_D A [(zo1iri bo mdc9_20 aEl9_4 (nI sz_9_21)), (zaR aEl9_4 cEl9_5 10 fEl9_22)] := hD
  have hK : va_K (dC, dI) vwCl [(cEl9_5, .object "java/lang/Object")] s := hK
  obtain ⟨er_23, e_24, hL_25⟩ := hw_19
  obtain rfl := (e_24).symm
  subst er_23
  refine lv_iadd hx hb dX10_doLooks_22 ?_
  rw [hQ]
  have hP9 := hP.sub (ws' := [(zo1iri bo mdc9_20 aEl9_4 (nI ((1 + 4) + 2))), (zaR aEl9_4 cEl9_5 10 fEl9_22)]) [0, 1] rfl
  have hD9 := hD.sub (ws' := [(zo1iri bo mdc9_20 aEl9_4 (nI ((1 + 4) + 2))), (zaR aEl9_4 cEl9_5 10 fEl9_22)]) [0, 1] (by decide) rfl
  have hK9 := hK.sub (tys' := [(cEl9_5, .object "java/lang/Object")]) [0] rfl
  refine W.widen (k := 1) (n := 10) (by omega) (by omega) ?_
  exact W.iret (v := ((((x - 1) * 3 + nI i0) - sv) * 2) + (2 * 3 + nI i0)) hx hb hr (fun tQ htQ hWQ => ⟨⟨(((((x - 1) * 3 + nI i0) - sv) * 2) + (2 * 3 + nI i0)), (mdc9_20, aEl9_4, cEl9_5, ((1 + 4) + 2), fEl9_22), rfl, ⟨rfl, by omega, hL_25⟩, by rw [htQ]; exact hP9, va_K.moved hWQ.alike hK9, hD9⟩, hS.F htQ⟩) hS.2.2 dX10_doLooks_23

theorem kc_X3_doSees_X9_1_0 : (.fieldLink RX3 15 "MistHeaps$Heap" "number" "I" : Cond) ∈ wsX3_doSees := kc_of 231 rfl rfl rfl
theorem kc_X3_doSees_X9_1_1 : ∀ w ∈ wsX90, w ∈ wsX3_doSees := fun w h => List.mem_cons_of_mem _ (gin_wsX90 w h)
set_option maxHeartbeats 4000000 in
set_option maxRecDepth 100000 in
theorem c_X3_doSees_X9_1 (l : Launch) (dC : Nat → ClassId) (dI : Nat → Nat → Nat) (ad : Nat → Nat) (cB bS : Nat)    (bo : Nat) (aEl : Nat) (i0 : Nat) (sk : Int32) (sv : Int32) (scl : Int32) (x : Int32) (cEl : ClassId) (fEl : Nat → Option Nat) (a0 : Nat) (sz_ : Nat) (mdc : Int32) (tl : List Nat) (sz : Nat) (hsz : sz_ + 1 ≤ 10) (zL : okL ad fEl sz_ tl) : Met l yX3_doSees wsX3_doSees ({ frames := 3, cells := 0, slots := 0, locals := 65 } : Room) (va_Pc [.ref a0, .int x, .ref bo] (fun U => U.heap.size = sz ∧ va_P (dC, dI) vwCl [(zo1iri bo mdc aEl (nI sz_)), (zaR aEl cEl 10 fEl)] U.heap ∧ va_K (dC, dI) vwCl [(cEl, .object "java/lang/Object")] U ∧ va_D (fun _ => True) [(zo1iri bo mdc aEl (nI sz_)), (zaR aEl cEl 10 fEl)] ∧ Gi ad cB bS (va_A [(zo1iri bo mdc aEl (nI sz_)), (zaR aEl cEl 10 fEl)] sz) U ∧ Gb (va_A [(zo1iri bo mdc aEl (nI sz_)), (zaR aEl cEl 10 fEl)] sz) U ∧ Gw (va_A [(zo1iri bo mdc aEl (nI sz_)), (zaR aEl cEl 10 fEl)] sz) U ∧ Fz dC dI [(zo11iiii a0 sk (nI i0) sv scl)] [] (va_A [(zo1iri bo mdc aEl (nI sz_)), (zaR aEl cEl 10 fEl)] sz) U)) (va_Qi (fun (r : Int32) (u : (Int32) × (Nat) × (Nat → Option Nat)) => match u with | (mdc9, sz_9, fEl9) => r = x + nI i0 ∧ sz_9 = sz_ + 1 ∧ okL ad fEl9 sz_9 (tl ++ [1])) (fun (u : (Int32) × (Nat) × (Nat → Option Nat)) (t : State) => match u with | (mdc9, sz_9, fEl9) => va_P (dC, dI) vwCl [(zo1iri bo mdc9 aEl (nI sz_9)), (zaR aEl cEl 10 fEl9)] t.heap ∧ va_K (dC, dI) vwCl [(cEl, .object "java/lang/Object")] t ∧ va_D (va_A [(zo1iri bo mdc aEl (nI sz_)), (zaR aEl cEl 10 fEl)] sz) [(zo1iri bo mdc9 aEl (nI sz_9)), (zaR aEl cEl 10 fEl9)]) (va_A [(zo1iri bo mdc aEl (nI sz_)), (zaR aEl cEl 10 fEl)] sz)) 0 0 (va_A [(zo1iri bo mdc aEl (nI sz_)), (zaR aEl cEl 10 fEl)] sz) := by
  refine met_ofQ (cc := cX3_doSees) (maxL := 3) (ret := (some .int)) (by decide) rfl ?_
  intro p e s m args below meth c s₁ Q B hml hv hQ
  obtain ⟨rfl, hsz, hP, hK, hD0, hI_, hB_, hW_, hZ⟩ := hv
  have hx := B.exec
  have hb := B.bytes
  have hr := B.returns
  have hts := atoms_spec (ws := wsX3_doSees) B.pre
  have hown : s.vm.findClass RX3 = some m.cls := findClass_of_methodNamed B.named
  have hlocks := B.notSynchronized
  subst hsz
  have hD := hD0.self (sz := s.heap.size)
  generalize hAe : va_A [(zo1iri bo mdc aEl (nI sz_)), (zaR aEl cEl 10 fEl)] s.heap.size = A at hD hQ hI_ hB_ hW_ hZ ⊢
  have hA : ∀ q : Nat, s.heap.size ≤ q → A q := fun q h => by rw [← hAe]; exact Or.inr h
  have hS : va_S A s.heap s.heap [] := va_S.rf
  have hl := lv_entry [.ref a0, .int x, .ref bo] (n := 3) (Nat.le_of_ble_eq_true rfl)
  rw [lg_entry_eq]
  generalize (lg_sl [.ref a0, .int x, .ref bo] ++ List.replicate (3 - (lg_sl [.ref a0, .int x, .ref bo]).length) Slot.unset).toArray = ls at hl ⊢
  generalize hag : ([.ref a0, .int x, .ref bo] : List Value).toArray = args at hts hQ ⊢
  have hl : lv_has ls 3 [(0, .ref a0), (1, .int x), (2, .ref bo)] := hl
  obtain ⟨H, hH⟩ : ∃ H : Heap, H = s.heap := ⟨_, rfl⟩
  rw [← hH] at hP
  rw [← hH]
  have hS : va_S A s.heap H [] := by rw [hH]; exact hS
  obtain ⟨locs, hlo⟩ : ∃ L : List Loc, L = [] := ⟨_, rfl⟩
  rw [← hlo] at hS
  rw [← hlo]
  clear hH hlo
  refine lv_iconst (v := 1) hx hb dX3_doSees_0 (by decide) ?_
  refine lv_aload_n hx hb dX3_doSees_1 rfl (lv_at hl 2 rfl) ?_
  have hPc := hP.sub (ws' := [(zo1iri bo mdc aEl (nI sz_)), (zaR aEl cEl 10 fEl)]) [0, 1] rfl
  have hDc := hD.sub (ws' := [(zo1iri bo mdc aEl (nI sz_)), (zaR aEl cEl 10 fEl)]) [0, 1] (by decide) rfl
  have hKc := hK.sub (tys' := [(cEl, .object "java/lang/Object")]) [0] rfl
  have hFc := va_free (wc := [(zo1iri bo mdc aEl (nI sz_)), (zaR aEl cEl 10 fEl)]) hD hS hA [0, 1] rfl
  refine va_callv (va_runS (As := [.int 1, .ref bo]) (rest := []) ⟨hx, hb, hml, hown, hts⟩ (c_begin1 l dC dI ad cB bS bo aEl 1 cEl fEl sz_ mdc tl H.size (by omega) (by omega) (zL)) (va_cwS 2 hts gX3_doSees_X3_begin rfl rfl rfl hd_yX3_begin.2 ⟨Nat.le_of_ble_eq_true rfl, Nat.le_of_ble_eq_true rfl⟩) ⟨fun a U g mk q => by obtain ⟨q0, q1, qP, qK, qD, qhI_⟩ := q; exact ⟨q0, mvz g mk a q1, mvP g mk a qP, mvK g mk a qK, qD, qhI_.mv g mk a⟩, fun U hU hW => ⟨rfl, by rw [hU], by rw [hU]; exact hPc, va_K.moved hW.alike hKc, hDc.weaken (fun _ _ _ _ => trivial), hI_.call hS hU hW (fun q h => hFc q h)⟩⟩ rfl rfl hl.1 rfl (lv_room (Nat.le_of_ble_eq_true rfl)) dX3_doSees_2 ⟨Nat.le_of_ble_eq_true rfl, Nat.le_of_ble_eq_true rfl⟩) hS (fun q _ h => hFc q h) hFc (fun u tC H1 locs htC hvm hw_2 hB hz1 hk1 hS => ?_)
  obtain ⟨mdc9_3, sz_9_4, fEl9_5⟩ := u
  try dsimp only at hw_2 hB
  obtain ⟨hP1, hK1, hD1⟩ := hB
  rw [htC] at hP1
  have hK1 := va_K.moved hvm.symm hK1
  obtain ⟨hP, hD⟩ := va_join (wr := []) (w1 := [(zo1iri bo mdc9_3 aEl (nI sz_9_4)), (zaR aEl cEl 10 fEl9_5)]) hP hD [0, 1] [] rfl rfl (by decide) (by decide) hk1 hFc hP1 hD1
  have hK := (hK.sub (tys' := []) [] rfl).app hK1
  generalize H1 = H at hP hS ⊢
  have hP : va_P (dC, dI) vwCl [(zo1iri bo mdc9_3 aEl (nI sz_9_4)), (zaR aEl cEl 10 fEl9_5)] H := hP
  have hD : va_D A [(zo1iri bo mdc9_3 aEl (nI sz_9_4)), (zaR aEl cEl 10 fEl9_5)] := hD
  have hK : va_K (dC, dI) vwCl [(cEl, .object "java/lang/Object")] s := hK
  obtain ⟨e_6, hL_7⟩ := hw_2
  obtain rfl := (e_6).symm
  refine lv_iload_n hx hb dX3_doSees_5 rfl (lv_at hl 1 rfl) ?_
  refine lv_aload_n hx hb dX3_doSees_6 rfl (lv_at hl 0 rfl) ?_
  refine va_get (D := (dC, dI)) (ci := 11) (v := .int (nI i0)) (C := RX9) (T := TX9) (N := 4) hx hb hts kc_X3_doSees_X9_1_1 hown hZ.2.1 (hZ.P hS) 0 rfl rfl 1 (by decide) (hts (.fieldLink RX3 15 "MistHeaps$Heap" "number" "I") kc_X3_doSees_X9_1_0) (fun _ h9 => h9) rfl dX3_doSees_7 ?_
  refine lv_iadd hx hb dX3_doSees_10 ?_
  rw [hQ]
  have hP9 := hP.sub (ws' := [(zo1iri bo mdc9_3 aEl (nI (sz_ + 1))), (zaR aEl cEl 10 fEl9_5)]) [0, 1] rfl
  have hD9 := hD.sub (ws' := [(zo1iri bo mdc9_3 aEl (nI (sz_ + 1))), (zaR aEl cEl 10 fEl9_5)]) [0, 1] (by decide) rfl
  have hK9 := hK.sub (tys' := [(cEl, .object "java/lang/Object")]) [0] rfl
  exact W.iret (v := x + (nI i0)) hx hb hr (fun tQ htQ hWQ => ⟨⟨(x + (nI i0)), (mdc9_3, (sz_ + 1), fEl9_5), rfl, ⟨rfl, by omega, by have h9 := hL_7; exact h9⟩, by rw [htQ]; exact hP9, va_K.moved hWQ.alike hK9, hD9⟩, hS.F htQ⟩) hS.2.2 dX3_doSees_11

theorem kc_X3_doSees_X9_0_0 : (.fieldLink RX3 15 "MistHeaps$Heap" "number" "I" : Cond) ∈ wsX3_doSees := kc_of 231 rfl rfl rfl
theorem kc_X3_doSees_X9_0_1 : ∀ w ∈ wsX90, w ∈ wsX3_doSees := fun w h => List.mem_cons_of_mem _ (gin_wsX90 w h)
set_option maxHeartbeats 4000000 in
set_option maxRecDepth 100000 in
theorem c_X3_doSees_X9_0 (l : Launch) (dC : Nat → ClassId) (dI : Nat → Nat → Nat) (ad : Nat → Nat) (cB bS : Nat)    (bo : Nat) (i0 : Nat) (sk : Int32) (sv : Int32) (scl : Int32) (x : Int32) (a0 : Nat) (mdc : Int32) (sz : Nat) : Met l yX3_doSees wsX3_doSees ({ frames := 6, cells := 1, slots := 10, locals := 122 } : Room) (va_Pc [.ref a0, .int x, .ref bo] (fun U => U.heap.size = sz ∧ va_P (dC, dI) vwCl [(zo1iri bo mdc bS 0)] U.heap ∧ va_K (dC, dI) vwCl [] U ∧ va_D (fun _ => True) [(zo1iri bo mdc bS 0)] ∧ Gi ad cB bS (va_A [(zo1iri bo mdc bS 0)] sz) U ∧ Gb (va_A [(zo1iri bo mdc bS 0)] sz) U ∧ Gw (va_A [(zo1iri bo mdc bS 0)] sz) U ∧ Fz dC dI [(zo11iiii a0 sk (nI i0) sv scl)] [] (va_A [(zo1iri bo mdc bS 0)] sz) U)) (va_Qi (fun (r : Int32) (u : (Int32) × (Nat) × (ClassId) × (Nat) × (Nat → Option Nat)) => match u with | (mdc9, aEl9, cEl9, sz_9, fEl9) => r = x + nI i0 ∧ sz_9 = 1 ∧ okL ad fEl9 sz_9 [1]) (fun (u : (Int32) × (Nat) × (ClassId) × (Nat) × (Nat → Option Nat)) (t : State) => match u with | (mdc9, aEl9, cEl9, sz_9, fEl9) => va_P (dC, dI) vwCl [(zo1iri bo mdc9 aEl9 (nI sz_9)), (zaR aEl9 cEl9 10 fEl9)] t.heap ∧ va_K (dC, dI) vwCl [(cEl9, .object "java/lang/Object")] t ∧ va_D (va_A [(zo1iri bo mdc bS 0)] sz) [(zo1iri bo mdc9 aEl9 (nI sz_9)), (zaR aEl9 cEl9 10 fEl9)]) (va_A [(zo1iri bo mdc bS 0)] sz)) 1 10 (va_A [(zo1iri bo mdc bS 0)] sz) := by
  refine met_ofQ (cc := cX3_doSees) (maxL := 3) (ret := (some .int)) (by decide) rfl ?_
  intro p e s m args below meth c s₁ Q B hml hv hQ
  obtain ⟨rfl, hsz, hP, hK, hD0, hI_, hB_, hW_, hZ⟩ := hv
  have hx := B.exec
  have hb := B.bytes
  have hr := B.returns
  have hts := atoms_spec (ws := wsX3_doSees) B.pre
  have hown : s.vm.findClass RX3 = some m.cls := findClass_of_methodNamed B.named
  have hlocks := B.notSynchronized
  subst hsz
  have hD := hD0.self (sz := s.heap.size)
  generalize hAe : va_A [(zo1iri bo mdc bS 0)] s.heap.size = A at hD hQ hI_ hB_ hW_ hZ ⊢
  have hA : ∀ q : Nat, s.heap.size ≤ q → A q := fun q h => by rw [← hAe]; exact Or.inr h
  have hS : va_S A s.heap s.heap [] := va_S.rf
  have hl := lv_entry [.ref a0, .int x, .ref bo] (n := 3) (Nat.le_of_ble_eq_true rfl)
  rw [lg_entry_eq]
  generalize (lg_sl [.ref a0, .int x, .ref bo] ++ List.replicate (3 - (lg_sl [.ref a0, .int x, .ref bo]).length) Slot.unset).toArray = ls at hl ⊢
  generalize hag : ([.ref a0, .int x, .ref bo] : List Value).toArray = args at hts hQ ⊢
  have hl : lv_has ls 3 [(0, .ref a0), (1, .int x), (2, .ref bo)] := hl
  obtain ⟨H, hH⟩ : ∃ H : Heap, H = s.heap := ⟨_, rfl⟩
  rw [← hH] at hP
  rw [← hH]
  have hS : va_S A s.heap H [] := by rw [hH]; exact hS
  obtain ⟨locs, hlo⟩ : ∃ L : List Loc, L = [] := ⟨_, rfl⟩
  rw [← hlo] at hS
  rw [← hlo]
  clear hH hlo
  refine lv_iconst (v := 1) hx hb dX3_doSees_0 (by decide) ?_
  refine lv_aload_n hx hb dX3_doSees_1 rfl (lv_at hl 2 rfl) ?_
  have hPc := hP.sub (ws' := [(zo1iri bo mdc bS 0)]) [0] rfl
  have hDc := hD.sub (ws' := [(zo1iri bo mdc bS 0)]) [0] (by decide) rfl
  have hKc := hK.sub (tys' := []) [] rfl
  have hFc := va_free (wc := [(zo1iri bo mdc bS 0)]) hD hS hA [0] rfl
  refine va_callv (va_runS (As := [.int 1, .ref bo]) (rest := []) ⟨hx, hb, hml, hown, hts⟩ (c_begin0 l dC dI ad cB bS bo mdc 1 H.size (by omega)) (va_cwS 2 hts gX3_doSees_X3_begin rfl rfl rfl hd_yX3_begin.2 ⟨Nat.le_of_ble_eq_true rfl, Nat.le_of_ble_eq_true rfl⟩) ⟨fun a U g mk q => by obtain ⟨q0, q1, qP, qK, qD, qhI_⟩ := q; exact ⟨q0, mvz g mk a q1, mvP g mk a qP, mvK g mk a qK, qD, qhI_.mv g mk a⟩, fun U hU hW => ⟨rfl, by rw [hU], by rw [hU]; exact hPc, va_K.moved hW.alike hKc, hDc.weaken (fun _ _ _ _ => trivial), hI_.call hS hU hW (fun q h => hFc q h)⟩⟩ rfl rfl hl.1 rfl (lv_room (Nat.le_of_ble_eq_true rfl)) dX3_doSees_2 ⟨Nat.le_of_ble_eq_true rfl, Nat.le_of_ble_eq_true rfl⟩) hS (fun q _ h => hFc q h) hFc (fun u tC H1 locs htC hvm hw_2 hB hz1 hk1 hS => ?_)
  obtain ⟨mdc9_3, aEl9_4, cEl9_5, sz_9_6, fEl9_7⟩ := u
  try dsimp only at hw_2 hB
  obtain ⟨hP1, hK1, hD1⟩ := hB
  rw [htC] at hP1
  have hK1 := va_K.moved hvm.symm hK1
  obtain ⟨hP, hD⟩ := va_join (wr := []) (w1 := [(zo1iri bo mdc9_3 aEl9_4 (nI sz_9_6)), (zaR aEl9_4 cEl9_5 10 fEl9_7)]) hP hD [0] [] rfl rfl (by decide) (by decide) hk1 hFc hP1 hD1
  have hK := (hK.sub (tys' := []) [] rfl).app hK1
  generalize H1 = H at hP hS ⊢
  have hP : va_P (dC, dI) vwCl [(zo1iri bo mdc9_3 aEl9_4 (nI sz_9_6)), (zaR aEl9_4 cEl9_5 10 fEl9_7)] H := hP
  have hD : va_D A [(zo1iri bo mdc9_3 aEl9_4 (nI sz_9_6)), (zaR aEl9_4 cEl9_5 10 fEl9_7)] := hD
  have hK : va_K (dC, dI) vwCl [(cEl9_5, .object "java/lang/Object")] s := hK
  refine W.widen (k := 1) (n := 10) (by omega) (by omega) ?_
  obtain ⟨e_8, hL_9⟩ := hw_2
  obtain rfl := (e_8).symm
  refine lv_iload_n hx hb dX3_doSees_5 rfl (lv_at hl 1 rfl) ?_
  refine lv_aload_n hx hb dX3_doSees_6 rfl (lv_at hl 0 rfl) ?_
  refine va_get (D := (dC, dI)) (ci := 11) (v := .int (nI i0)) (C := RX9) (T := TX9) (N := 4) hx hb hts kc_X3_doSees_X9_0_1 hown hZ.2.1 (hZ.P hS) 0 rfl rfl 1 (by decide) (hts (.fieldLink RX3 15 "MistHeaps$Heap" "number" "I") kc_X3_doSees_X9_0_0) (fun _ h9 => h9) rfl dX3_doSees_7 ?_
  refine lv_iadd hx hb dX3_doSees_10 ?_
  rw [hQ]
  have hP9 := hP.sub (ws' := [(zo1iri bo mdc9_3 aEl9_4 (nI 1)), (zaR aEl9_4 cEl9_5 10 fEl9_7)]) [0, 1] rfl
  have hD9 := hD.sub (ws' := [(zo1iri bo mdc9_3 aEl9_4 (nI 1)), (zaR aEl9_4 cEl9_5 10 fEl9_7)]) [0, 1] (by decide) rfl
  have hK9 := hK.sub (tys' := [(cEl9_5, .object "java/lang/Object")]) [0] rfl
  refine W.widen (k := 1) (n := 10) (by omega) (by omega) ?_
  exact W.iret (v := x + (nI i0)) hx hb hr (fun tQ htQ hWQ => ⟨⟨(x + (nI i0)), (mdc9_3, aEl9_4, cEl9_5, 1, fEl9_7), rfl, ⟨rfl, by omega, hL_9⟩, by rw [htQ]; exact hP9, va_K.moved hWQ.alike hK9, hD9⟩, hS.F htQ⟩) hS.2.2 dX3_doSees_11

theorem kc_X9_doSees_X9_1_0 : (.fieldLink RX9 25 "MistHeaps$Snowed" "number" "I" : Cond) ∈ wsX9_doSees := kc_of 232 rfl rfl rfl
theorem kc_X9_doSees_X9_1_1 : ∀ w ∈ wsX90, w ∈ wsX9_doSees := fun w h => List.mem_cons_of_mem _ (gin_wsX90 w h)
theorem kc_X9_doSees_X9_1_2 : (.sameField "MistHeaps$Snowed" "MistHeaps$Heap" "number" "I" : Cond) ∈ wsX9_doSees := kc_of 233 rfl rfl rfl
set_option maxHeartbeats 4000000 in
set_option maxRecDepth 100000 in
theorem c_X9_doSees_X9_1 (l : Launch) (dC : Nat → ClassId) (dI : Nat → Nat → Nat) (ad : Nat → Nat) (cB bS : Nat)    (bo : Nat) (aEl : Nat) (i0 : Nat) (sk : Int32) (sv : Int32) (scl : Int32) (x : Int32) (cEl : ClassId) (fEl : Nat → Option Nat) (a0 : Nat) (sz_ : Nat) (mdc : Int32) (tl : List Nat) (sz : Nat) (hsz : sz_ + 2 ≤ 10) (zL : okL ad fEl sz_ tl) : Met l yX9_doSees wsX9_doSees ({ frames := 4, cells := 0, slots := 0, locals := 87 } : Room) (va_Pc [.ref a0, .int x, .ref bo] (fun U => U.heap.size = sz ∧ va_P (dC, dI) vwCl [(zo1iri bo mdc aEl (nI sz_)), (zaR aEl cEl 10 fEl)] U.heap ∧ va_K (dC, dI) vwCl [(cEl, .object "java/lang/Object")] U ∧ va_D (fun _ => True) [(zo1iri bo mdc aEl (nI sz_)), (zaR aEl cEl 10 fEl)] ∧ Gi ad cB bS (va_A [(zo1iri bo mdc aEl (nI sz_)), (zaR aEl cEl 10 fEl)] sz) U ∧ Gb (va_A [(zo1iri bo mdc aEl (nI sz_)), (zaR aEl cEl 10 fEl)] sz) U ∧ Gw (va_A [(zo1iri bo mdc aEl (nI sz_)), (zaR aEl cEl 10 fEl)] sz) U ∧ Fz dC dI [(zo11iiii a0 sk (nI i0) sv scl)] [] (va_A [(zo1iri bo mdc aEl (nI sz_)), (zaR aEl cEl 10 fEl)] sz) U)) (va_Qi (fun (r : Int32) (u : (Int32) × (Nat) × (Nat → Option Nat)) => match u with | (mdc9, sz_9, fEl9) => r = (x + nI i0) ^^^ nI i0 ∧ sz_9 = sz_ + 2 ∧ okL ad fEl9 sz_9 (tl ++ [51, 1])) (fun (u : (Int32) × (Nat) × (Nat → Option Nat)) (t : State) => match u with | (mdc9, sz_9, fEl9) => va_P (dC, dI) vwCl [(zo1iri bo mdc9 aEl (nI sz_9)), (zaR aEl cEl 10 fEl9)] t.heap ∧ va_K (dC, dI) vwCl [(cEl, .object "java/lang/Object")] t ∧ va_D (va_A [(zo1iri bo mdc aEl (nI sz_)), (zaR aEl cEl 10 fEl)] sz) [(zo1iri bo mdc9 aEl (nI sz_9)), (zaR aEl cEl 10 fEl9)]) (va_A [(zo1iri bo mdc aEl (nI sz_)), (zaR aEl cEl 10 fEl)] sz)) 0 0 (va_A [(zo1iri bo mdc aEl (nI sz_)), (zaR aEl cEl 10 fEl)] sz) := by
  refine met_ofQ (cc := cX9_doSees) (maxL := 3) (ret := (some .int)) (by decide) rfl ?_
  intro p e s m args below meth c s₁ Q B hml hv hQ
  obtain ⟨rfl, hsz, hP, hK, hD0, hI_, hB_, hW_, hZ⟩ := hv
  have hx := B.exec
  have hb := B.bytes
  have hr := B.returns
  have hts := atoms_spec (ws := wsX9_doSees) B.pre
  have hown : s.vm.findClass RX9 = some m.cls := findClass_of_methodNamed B.named
  have hlocks := B.notSynchronized
  subst hsz
  have hD := hD0.self (sz := s.heap.size)
  generalize hAe : va_A [(zo1iri bo mdc aEl (nI sz_)), (zaR aEl cEl 10 fEl)] s.heap.size = A at hD hQ hI_ hB_ hW_ hZ ⊢
  have hA : ∀ q : Nat, s.heap.size ≤ q → A q := fun q h => by rw [← hAe]; exact Or.inr h
  have hS : va_S A s.heap s.heap [] := va_S.rf
  have hl := lv_entry [.ref a0, .int x, .ref bo] (n := 3) (Nat.le_of_ble_eq_true rfl)
  rw [lg_entry_eq]
  generalize (lg_sl [.ref a0, .int x, .ref bo] ++ List.replicate (3 - (lg_sl [.ref a0, .int x, .ref bo]).length) Slot.unset).toArray = ls at hl ⊢
  generalize hag : ([.ref a0, .int x, .ref bo] : List Value).toArray = args at hts hQ ⊢
  have hl : lv_has ls 3 [(0, .ref a0), (1, .int x), (2, .ref bo)] := hl
  obtain ⟨H, hH⟩ : ∃ H : Heap, H = s.heap := ⟨_, rfl⟩
  rw [← hH] at hP
  rw [← hH]
  have hS : va_S A s.heap H [] := by rw [hH]; exact hS
  obtain ⟨locs, hlo⟩ : ∃ L : List Loc, L = [] := ⟨_, rfl⟩
  rw [← hlo] at hS
  rw [← hlo]
  clear hH hlo
  refine lv_bipush (v := 51) hx hb dX9_doSees_0 (by decide) ?_
  refine lv_aload_n hx hb dX9_doSees_2 rfl (lv_at hl 2 rfl) ?_
  have hPc := hP.sub (ws' := [(zo1iri bo mdc aEl (nI sz_)), (zaR aEl cEl 10 fEl)]) [0, 1] rfl
  have hDc := hD.sub (ws' := [(zo1iri bo mdc aEl (nI sz_)), (zaR aEl cEl 10 fEl)]) [0, 1] (by decide) rfl
  have hKc := hK.sub (tys' := [(cEl, .object "java/lang/Object")]) [0] rfl
  have hFc := va_free (wc := [(zo1iri bo mdc aEl (nI sz_)), (zaR aEl cEl 10 fEl)]) hD hS hA [0, 1] rfl
  refine va_callv (va_runU2 (As := [.int 51, .ref bo]) (rest := []) ⟨hx, hb, hml, hown, hts⟩ (c_begin1 l dC dI ad cB bS bo aEl 51 cEl fEl sz_ mdc tl H.size (by omega) (by omega) (zL)) (u2_cw (x := xb9) 2 hB_ inb9 rfl rfl rfl rfl rfl (by decide +kernel) ⟨Nat.le_of_ble_eq_true rfl, Nat.le_of_ble_eq_true rfl⟩) ⟨fun a U g mk q => by obtain ⟨q0, q1, qP, qK, qD, qhI_⟩ := q; exact ⟨q0, mvz g mk a q1, mvP g mk a qP, mvK g mk a qK, qD, qhI_.mv g mk a⟩, fun U hU hW => ⟨rfl, by rw [hU], by rw [hU]; exact hPc, va_K.moved hW.alike hKc, hDc.weaken (fun _ _ _ _ => trivial), hI_.call hS hU hW (fun q h => hFc q h)⟩⟩ rfl rfl hl.1 rfl (lv_room (Nat.le_of_ble_eq_true rfl)) dX9_doSees_3 ⟨Nat.le_of_ble_eq_true rfl, Nat.le_of_ble_eq_true rfl⟩) hS (fun q _ h => hFc q h) hFc (fun u tC H1 locs htC hvm hw_2 hB hz1 hk1 hS => ?_)
  obtain ⟨mdc9_3, sz_9_4, fEl9_5⟩ := u
  try dsimp only at hw_2 hB
  obtain ⟨hP1, hK1, hD1⟩ := hB
  rw [htC] at hP1
  have hK1 := va_K.moved hvm.symm hK1
  obtain ⟨hP, hD⟩ := va_join (wr := []) (w1 := [(zo1iri bo mdc9_3 aEl (nI sz_9_4)), (zaR aEl cEl 10 fEl9_5)]) hP hD [0, 1] [] rfl rfl (by decide) (by decide) hk1 hFc hP1 hD1
  have hK := (hK.sub (tys' := []) [] rfl).app hK1
  generalize H1 = H at hP hS ⊢
  have hP : va_P (dC, dI) vwCl [(zo1iri bo mdc9_3 aEl (nI sz_9_4)), (zaR aEl cEl 10 fEl9_5)] H := hP
  have hD : va_D A [(zo1iri bo mdc9_3 aEl (nI sz_9_4)), (zaR aEl cEl 10 fEl9_5)] := hD
  have hK : va_K (dC, dI) vwCl [(cEl, .object "java/lang/Object")] s := hK
  obtain ⟨e_6, hL_7⟩ := hw_2
  obtain rfl := (e_6).symm
  refine lv_aload_n hx hb dX9_doSees_6 rfl (lv_at hl 0 rfl) ?_
  refine lv_iload_n hx hb dX9_doSees_7 rfl (lv_at hl 1 rfl) ?_
  refine lv_aload_n hx hb dX9_doSees_8 rfl (lv_at hl 2 rfl) ?_
  have hPc := hP.sub (ws' := [(zo1iri bo mdc9_3 aEl (nI (sz_ + 1))), (zaR aEl cEl 10 fEl9_5)]) [0, 1] rfl
  have hDc := hD.sub (ws' := [(zo1iri bo mdc9_3 aEl (nI (sz_ + 1))), (zaR aEl cEl 10 fEl9_5)]) [0, 1] (by decide) rfl
  have hKc := hK.sub (tys' := [(cEl, .object "java/lang/Object")]) [0] rfl
  have hFc := va_free (wc := [(zo1iri bo mdc9_3 aEl (nI (sz_ + 1))), (zaR aEl cEl 10 fEl9_5)]) hD hS hA [0, 1] rfl
  refine va_calli (va_runS2 (hZ.2.1.1 11 (RX9, TX9, 4) rfl).2 (As := [.int x, .ref bo]) (rest := []) ⟨hx, hb, hml, hown, hts⟩ (c_X3_doSees_X9_1 l dC dI ad cB bS    bo aEl i0 sk sv scl x cEl fEl9_5 a0 (sz_ + 1) mdc9_3 (tl ++ [51]) H.size (by omega) (hL_7)) (s2_cw (x := x9s) 2 hW_ in9s rfl rfl rfl rfl rfl (by decide +kernel) ⟨Nat.le_of_ble_eq_true rfl, Nat.le_of_ble_eq_true rfl⟩) ⟨fun a U g mk q => by obtain ⟨q0, q1, qP, qK, qD, qhI_, qhB_, qhW_, qhZ⟩ := q; exact ⟨q0, mvz g mk a q1, mvP g mk a qP, mvK g mk a qK, qD, qhI_.mv g mk a, qhB_.mv g mk a, qhW_.mv g mk a, qhZ.mv g mk a⟩, va_recv hZ.2.1 (hZ.P hS) (ci := 11) (q := (RX9, TX9, 4)) (q0 := 0) rfl rfl, fun U hU hW => ⟨rfl, by rw [hU], by rw [hU]; exact hPc, va_K.moved hW.alike hKc, hDc.weaken (fun _ _ _ _ => trivial), hI_.call hS hU hW (fun q h => hFc q h), hB_.call hS hU hW (fun q h => hFc q h), hW_.call hS hU hW (fun q h => hFc q h), (hZ.sub [0] [] rfl rfl).call hS hU hW (fun q h => hFc q h)⟩⟩ rfl rfl hl.1 rfl (lv_room (Nat.le_of_ble_eq_true rfl)) dX9_doSees_9 ⟨Nat.le_of_ble_eq_true rfl, Nat.le_of_ble_eq_true rfl⟩) hS (fun q _ h => hFc q h) hFc (fun r_8 u tC H1 locs htC hvm hw_9 hB hz1 hk1 hS => ?_)
  obtain ⟨mdc9_10, sz_9_11, fEl9_12⟩ := u
  try dsimp only at hw_9 hB
  obtain ⟨hP1, hK1, hD1⟩ := hB
  rw [htC] at hP1
  have hK1 := va_K.moved hvm.symm hK1
  obtain ⟨hP, hD⟩ := va_join (wr := []) (w1 := [(zo1iri bo mdc9_10 aEl (nI sz_9_11)), (zaR aEl cEl 10 fEl9_12)]) hP hD [0, 1] [] rfl rfl (by decide) (by decide) hk1 hFc hP1 hD1
  have hK := (hK.sub (tys' := []) [] rfl).app hK1
  generalize H1 = H at hP hS ⊢
  have hP : va_P (dC, dI) vwCl [(zo1iri bo mdc9_10 aEl (nI sz_9_11)), (zaR aEl cEl 10 fEl9_12)] H := hP
  have hD : va_D A [(zo1iri bo mdc9_10 aEl (nI sz_9_11)), (zaR aEl cEl 10 fEl9_12)] := hD
  have hK : va_K (dC, dI) vwCl [(cEl, .object "java/lang/Object")] s := hK
  obtain ⟨er_13, e_14, hL_15⟩ := hw_9
  obtain rfl := (e_14).symm
  subst er_13
  refine lv_aload_n hx hb dX9_doSees_12 rfl (lv_at hl 0 rfl) ?_
  refine va_get (D := (dC, dI)) (ci := 11) (v := .int (nI i0)) (C := RX9) (T := TX9) (N := 4) hx hb hts kc_X9_doSees_X9_1_1 hown hZ.2.1 (hZ.P hS) 0 rfl rfl 1 (by decide) (hts (.fieldLink RX9 25 "MistHeaps$Snowed" "number" "I") kc_X9_doSees_X9_1_0) (fun x h => u_same (hts (.sameField "MistHeaps$Snowed" "MistHeaps$Heap" "number" "I") kc_X9_doSees_X9_1_2) x h) rfl dX9_doSees_13 ?_
  refine lv_ixor hx hb dX9_doSees_16 ?_
  rw [hQ]
  have hP9 := hP.sub (ws' := [(zo1iri bo mdc9_10 aEl (nI ((sz_ + 1) + 1))), (zaR aEl cEl 10 fEl9_12)]) [0, 1] rfl
  have hD9 := hD.sub (ws' := [(zo1iri bo mdc9_10 aEl (nI ((sz_ + 1) + 1))), (zaR aEl cEl 10 fEl9_12)]) [0, 1] (by decide) rfl
  have hK9 := hK.sub (tys' := [(cEl, .object "java/lang/Object")]) [0] rfl
  exact W.iret (v := (x + nI i0) ^^^ (nI i0)) hx hb hr (fun tQ htQ hWQ => ⟨⟨((x + nI i0) ^^^ (nI i0)), (mdc9_10, ((sz_ + 1) + 1), fEl9_12), rfl, ⟨rfl, by omega, by have h9 := okL_as (hL_15); exact h9⟩, by rw [htQ]; exact hP9, va_K.moved hWQ.alike hK9, hD9⟩, hS.F htQ⟩) hS.2.2 dX9_doSees_17

theorem kc_X9_doSees_X9_0_0 : (.fieldLink RX9 25 "MistHeaps$Snowed" "number" "I" : Cond) ∈ wsX9_doSees := kc_of 232 rfl rfl rfl
theorem kc_X9_doSees_X9_0_1 : ∀ w ∈ wsX90, w ∈ wsX9_doSees := fun w h => List.mem_cons_of_mem _ (gin_wsX90 w h)
theorem kc_X9_doSees_X9_0_2 : (.sameField "MistHeaps$Snowed" "MistHeaps$Heap" "number" "I" : Cond) ∈ wsX9_doSees := kc_of 233 rfl rfl rfl
set_option maxHeartbeats 4000000 in
set_option maxRecDepth 100000 in
theorem c_X9_doSees_X9_0 (l : Launch) (dC : Nat → ClassId) (dI : Nat → Nat → Nat) (ad : Nat → Nat) (cB bS : Nat)    (bo : Nat) (i0 : Nat) (sk : Int32) (sv : Int32) (scl : Int32) (x : Int32) (a0 : Nat) (mdc : Int32) (sz : Nat) : Met l yX9_doSees wsX9_doSees ({ frames := 6, cells := 1, slots := 10, locals := 122 } : Room) (va_Pc [.ref a0, .int x, .ref bo] (fun U => U.heap.size = sz ∧ va_P (dC, dI) vwCl [(zo1iri bo mdc bS 0)] U.heap ∧ va_K (dC, dI) vwCl [] U ∧ va_D (fun _ => True) [(zo1iri bo mdc bS 0)] ∧ Gi ad cB bS (va_A [(zo1iri bo mdc bS 0)] sz) U ∧ Gb (va_A [(zo1iri bo mdc bS 0)] sz) U ∧ Gw (va_A [(zo1iri bo mdc bS 0)] sz) U ∧ Fz dC dI [(zo11iiii a0 sk (nI i0) sv scl)] [] (va_A [(zo1iri bo mdc bS 0)] sz) U)) (va_Qi (fun (r : Int32) (u : (Int32) × (Nat) × (ClassId) × (Nat) × (Nat → Option Nat)) => match u with | (mdc9, aEl9, cEl9, sz_9, fEl9) => r = (x + nI i0) ^^^ nI i0 ∧ sz_9 = 2 ∧ okL ad fEl9 sz_9 [51, 1]) (fun (u : (Int32) × (Nat) × (ClassId) × (Nat) × (Nat → Option Nat)) (t : State) => match u with | (mdc9, aEl9, cEl9, sz_9, fEl9) => va_P (dC, dI) vwCl [(zo1iri bo mdc9 aEl9 (nI sz_9)), (zaR aEl9 cEl9 10 fEl9)] t.heap ∧ va_K (dC, dI) vwCl [(cEl9, .object "java/lang/Object")] t ∧ va_D (va_A [(zo1iri bo mdc bS 0)] sz) [(zo1iri bo mdc9 aEl9 (nI sz_9)), (zaR aEl9 cEl9 10 fEl9)]) (va_A [(zo1iri bo mdc bS 0)] sz)) 1 10 (va_A [(zo1iri bo mdc bS 0)] sz) := by
  refine met_ofQ (cc := cX9_doSees) (maxL := 3) (ret := (some .int)) (by decide) rfl ?_
  intro p e s m args below meth c s₁ Q B hml hv hQ
  obtain ⟨rfl, hsz, hP, hK, hD0, hI_, hB_, hW_, hZ⟩ := hv
  have hx := B.exec
  have hb := B.bytes
  have hr := B.returns
  have hts := atoms_spec (ws := wsX9_doSees) B.pre
  have hown : s.vm.findClass RX9 = some m.cls := findClass_of_methodNamed B.named
  have hlocks := B.notSynchronized
  subst hsz
  have hD := hD0.self (sz := s.heap.size)
  generalize hAe : va_A [(zo1iri bo mdc bS 0)] s.heap.size = A at hD hQ hI_ hB_ hW_ hZ ⊢
  have hA : ∀ q : Nat, s.heap.size ≤ q → A q := fun q h => by rw [← hAe]; exact Or.inr h
  have hS : va_S A s.heap s.heap [] := va_S.rf
  have hl := lv_entry [.ref a0, .int x, .ref bo] (n := 3) (Nat.le_of_ble_eq_true rfl)
  rw [lg_entry_eq]
  generalize (lg_sl [.ref a0, .int x, .ref bo] ++ List.replicate (3 - (lg_sl [.ref a0, .int x, .ref bo]).length) Slot.unset).toArray = ls at hl ⊢
  generalize hag : ([.ref a0, .int x, .ref bo] : List Value).toArray = args at hts hQ ⊢
  have hl : lv_has ls 3 [(0, .ref a0), (1, .int x), (2, .ref bo)] := hl
  obtain ⟨H, hH⟩ : ∃ H : Heap, H = s.heap := ⟨_, rfl⟩
  rw [← hH] at hP
  rw [← hH]
  have hS : va_S A s.heap H [] := by rw [hH]; exact hS
  obtain ⟨locs, hlo⟩ : ∃ L : List Loc, L = [] := ⟨_, rfl⟩
  rw [← hlo] at hS
  rw [← hlo]
  clear hH hlo
  refine lv_bipush (v := 51) hx hb dX9_doSees_0 (by decide) ?_
  refine lv_aload_n hx hb dX9_doSees_2 rfl (lv_at hl 2 rfl) ?_
  have hPc := hP.sub (ws' := [(zo1iri bo mdc bS 0)]) [0] rfl
  have hDc := hD.sub (ws' := [(zo1iri bo mdc bS 0)]) [0] (by decide) rfl
  have hKc := hK.sub (tys' := []) [] rfl
  have hFc := va_free (wc := [(zo1iri bo mdc bS 0)]) hD hS hA [0] rfl
  refine va_callv (va_runU2 (As := [.int 51, .ref bo]) (rest := []) ⟨hx, hb, hml, hown, hts⟩ (c_begin0 l dC dI ad cB bS bo mdc 51 H.size (by omega)) (u2_cw (x := xb9) 2 hB_ inb9 rfl rfl rfl rfl rfl (by decide +kernel) ⟨Nat.le_of_ble_eq_true rfl, Nat.le_of_ble_eq_true rfl⟩) ⟨fun a U g mk q => by obtain ⟨q0, q1, qP, qK, qD, qhI_⟩ := q; exact ⟨q0, mvz g mk a q1, mvP g mk a qP, mvK g mk a qK, qD, qhI_.mv g mk a⟩, fun U hU hW => ⟨rfl, by rw [hU], by rw [hU]; exact hPc, va_K.moved hW.alike hKc, hDc.weaken (fun _ _ _ _ => trivial), hI_.call hS hU hW (fun q h => hFc q h)⟩⟩ rfl rfl hl.1 rfl (lv_room (Nat.le_of_ble_eq_true rfl)) dX9_doSees_3 ⟨Nat.le_of_ble_eq_true rfl, Nat.le_of_ble_eq_true rfl⟩) hS (fun q _ h => hFc q h) hFc (fun u tC H1 locs htC hvm hw_2 hB hz1 hk1 hS => ?_)
  obtain ⟨mdc9_3, aEl9_4, cEl9_5, sz_9_6, fEl9_7⟩ := u
  try dsimp only at hw_2 hB
  obtain ⟨hP1, hK1, hD1⟩ := hB
  rw [htC] at hP1
  have hK1 := va_K.moved hvm.symm hK1
  obtain ⟨hP, hD⟩ := va_join (wr := []) (w1 := [(zo1iri bo mdc9_3 aEl9_4 (nI sz_9_6)), (zaR aEl9_4 cEl9_5 10 fEl9_7)]) hP hD [0] [] rfl rfl (by decide) (by decide) hk1 hFc hP1 hD1
  have hK := (hK.sub (tys' := []) [] rfl).app hK1
  generalize H1 = H at hP hS ⊢
  have hP : va_P (dC, dI) vwCl [(zo1iri bo mdc9_3 aEl9_4 (nI sz_9_6)), (zaR aEl9_4 cEl9_5 10 fEl9_7)] H := hP
  have hD : va_D A [(zo1iri bo mdc9_3 aEl9_4 (nI sz_9_6)), (zaR aEl9_4 cEl9_5 10 fEl9_7)] := hD
  have hK : va_K (dC, dI) vwCl [(cEl9_5, .object "java/lang/Object")] s := hK
  refine W.widen (k := 1) (n := 10) (by omega) (by omega) ?_
  obtain ⟨e_8, hL_9⟩ := hw_2
  obtain rfl := (e_8).symm
  refine lv_aload_n hx hb dX9_doSees_6 rfl (lv_at hl 0 rfl) ?_
  refine lv_iload_n hx hb dX9_doSees_7 rfl (lv_at hl 1 rfl) ?_
  refine lv_aload_n hx hb dX9_doSees_8 rfl (lv_at hl 2 rfl) ?_
  have hPc := hP.sub (ws' := [(zo1iri bo mdc9_3 aEl9_4 (nI 1)), (zaR aEl9_4 cEl9_5 10 fEl9_7)]) [0, 1] rfl
  have hDc := hD.sub (ws' := [(zo1iri bo mdc9_3 aEl9_4 (nI 1)), (zaR aEl9_4 cEl9_5 10 fEl9_7)]) [0, 1] (by decide) rfl
  have hKc := hK.sub (tys' := [(cEl9_5, .object "java/lang/Object")]) [0] rfl
  have hFc := va_free (wc := [(zo1iri bo mdc9_3 aEl9_4 (nI 1)), (zaR aEl9_4 cEl9_5 10 fEl9_7)]) hD hS hA [0, 1] rfl
  refine va_calli (va_runS2 (hZ.2.1.1 11 (RX9, TX9, 4) rfl).2 (As := [.int x, .ref bo]) (rest := []) ⟨hx, hb, hml, hown, hts⟩ (c_X3_doSees_X9_1 l dC dI ad cB bS    bo aEl9_4 i0 sk sv scl x cEl9_5 fEl9_7 a0 1 mdc9_3 ([51]) H.size (by omega) (hL_9)) (s2_cw (x := x9s) 2 hW_ in9s rfl rfl rfl rfl rfl (by decide +kernel) ⟨Nat.le_of_ble_eq_true rfl, Nat.le_of_ble_eq_true rfl⟩) ⟨fun a U g mk q => by obtain ⟨q0, q1, qP, qK, qD, qhI_, qhB_, qhW_, qhZ⟩ := q; exact ⟨q0, mvz g mk a q1, mvP g mk a qP, mvK g mk a qK, qD, qhI_.mv g mk a, qhB_.mv g mk a, qhW_.mv g mk a, qhZ.mv g mk a⟩, va_recv hZ.2.1 (hZ.P hS) (ci := 11) (q := (RX9, TX9, 4)) (q0 := 0) rfl rfl, fun U hU hW => ⟨rfl, by rw [hU], by rw [hU]; exact hPc, va_K.moved hW.alike hKc, hDc.weaken (fun _ _ _ _ => trivial), hI_.call hS hU hW (fun q h => hFc q h), hB_.call hS hU hW (fun q h => hFc q h), hW_.call hS hU hW (fun q h => hFc q h), (hZ.sub [0] [] rfl rfl).call hS hU hW (fun q h => hFc q h)⟩⟩ rfl rfl hl.1 rfl (lv_room (Nat.le_of_ble_eq_true rfl)) dX9_doSees_9 ⟨Nat.le_of_ble_eq_true rfl, Nat.le_of_ble_eq_true rfl⟩) hS (fun q _ h => hFc q h) hFc (fun r_10 u tC H1 locs htC hvm hw_11 hB hz1 hk1 hS => ?_)
  obtain ⟨mdc9_12, sz_9_13, fEl9_14⟩ := u
  try dsimp only at hw_11 hB
  obtain ⟨hP1, hK1, hD1⟩ := hB
  rw [htC] at hP1
  have hK1 := va_K.moved hvm.symm hK1
  obtain ⟨hP, hD⟩ := va_join (wr := []) (w1 := [(zo1iri bo mdc9_12 aEl9_4 (nI sz_9_13)), (zaR aEl9_4 cEl9_5 10 fEl9_14)]) hP hD [0, 1] [] rfl rfl (by decide) (by decide) hk1 hFc hP1 hD1
  have hK := (hK.sub (tys' := []) [] rfl).app hK1
  generalize H1 = H at hP hS ⊢
  have hP : va_P (dC, dI) vwCl [(zo1iri bo mdc9_12 aEl9_4 (nI sz_9_13)), (zaR aEl9_4 cEl9_5 10 fEl9_14)] H := hP
  have hD : va_D A [(zo1iri bo mdc9_12 aEl9_4 (nI sz_9_13)), (zaR aEl9_4 cEl9_5 10 fEl9_14)] := hD
  have hK : va_K (dC, dI) vwCl [(cEl9_5, .object "java/lang/Object")] s := hK
  obtain ⟨er_15, e_16, hL_17⟩ := hw_11
  obtain rfl := (e_16).symm
  subst er_15
  refine lv_aload_n hx hb dX9_doSees_12 rfl (lv_at hl 0 rfl) ?_
  refine va_get (D := (dC, dI)) (ci := 11) (v := .int (nI i0)) (C := RX9) (T := TX9) (N := 4) hx hb hts kc_X9_doSees_X9_0_1 hown hZ.2.1 (hZ.P hS) 0 rfl rfl 1 (by decide) (hts (.fieldLink RX9 25 "MistHeaps$Snowed" "number" "I") kc_X9_doSees_X9_0_0) (fun x h => u_same (hts (.sameField "MistHeaps$Snowed" "MistHeaps$Heap" "number" "I") kc_X9_doSees_X9_0_2) x h) rfl dX9_doSees_13 ?_
  refine lv_ixor hx hb dX9_doSees_16 ?_
  rw [hQ]
  have hP9 := hP.sub (ws' := [(zo1iri bo mdc9_12 aEl9_4 (nI (1 + 1))), (zaR aEl9_4 cEl9_5 10 fEl9_14)]) [0, 1] rfl
  have hD9 := hD.sub (ws' := [(zo1iri bo mdc9_12 aEl9_4 (nI (1 + 1))), (zaR aEl9_4 cEl9_5 10 fEl9_14)]) [0, 1] (by decide) rfl
  have hK9 := hK.sub (tys' := [(cEl9_5, .object "java/lang/Object")]) [0] rfl
  refine W.widen (k := 1) (n := 10) (by omega) (by omega) ?_
  exact W.iret (v := (x + nI i0) ^^^ (nI i0)) hx hb hr (fun tQ htQ hWQ => ⟨⟨((x + nI i0) ^^^ (nI i0)), (mdc9_12, aEl9_4, cEl9_5, (1 + 1), fEl9_14), rfl, ⟨rfl, by omega, hL_17⟩, by rw [htQ]; exact hP9, va_K.moved hWQ.alike hK9, hD9⟩, hS.F htQ⟩) hS.2.2 dX9_doSees_17

theorem kc_X3_doGoes_X9_1_0 : (.code yX3_doSees cX3_doSees 3 (some .int) : Cond) ∈ wsX3_doGoes := kc_of 1025 rfl rfl rfl
theorem kc_X3_doGoes_X9_1_1 : (.fieldLink RX3 18 "MistHeaps$Heap" "v" "I" : Cond) ∈ wsX3_doGoes := kc_of 236 rfl rfl rfl
theorem kc_X3_doGoes_X9_1_2 : ∀ w ∈ wsX90, w ∈ wsX3_doGoes := fun w h => List.mem_cons_of_mem _ (gin_wsX90 w h)
set_option maxHeartbeats 4000000 in
set_option maxRecDepth 100000 in
theorem c_X3_doGoes_X9_1 (l : Launch) (dC : Nat → ClassId) (dI : Nat → Nat → Nat) (ad : Nat → Nat) (cB bS : Nat)    (bo : Nat) (aEl : Nat) (i0 : Nat) (sk : Int32) (sv : Int32) (scl : Int32) (x : Int32) (cEl : ClassId) (fEl : Nat → Option Nat) (a0 : Nat) (sz_ : Nat) (mdc : Int32) (tl : List Nat) (sz : Nat) (hsz : sz_ + 3 ≤ 10) (zL : okL ad fEl sz_ tl) : Met l yX3_doGoes wsX3_doGoes ({ frames := 5, cells := 0, slots := 0, locals := 109 } : Room) (va_Pc [.ref a0, .int x, .ref bo] (fun U => U.heap.size = sz ∧ va_P (dC, dI) vwCl [(zo1iri bo mdc aEl (nI sz_)), (zaR aEl cEl 10 fEl)] U.heap ∧ va_K (dC, dI) vwCl [(cEl, .object "java/lang/Object")] U ∧ va_D (fun _ => True) [(zo1iri bo mdc aEl (nI sz_)), (zaR aEl cEl 10 fEl)] ∧ Gi ad cB bS (va_A [(zo1iri bo mdc aEl (nI sz_)), (zaR aEl cEl 10 fEl)] sz) U ∧ Gb (va_A [(zo1iri bo mdc aEl (nI sz_)), (zaR aEl cEl 10 fEl)] sz) U ∧ Gw (va_A [(zo1iri bo mdc aEl (nI sz_)), (zaR aEl cEl 10 fEl)] sz) U ∧ Fz dC dI [(zo11iiii a0 sk (nI i0) sv scl)] [] (va_A [(zo1iri bo mdc aEl (nI sz_)), (zaR aEl cEl 10 fEl)] sz) U)) (va_Qi (fun (r : Int32) (u : (Int32) × (Nat) × (Nat → Option Nat)) => match u with | (mdc9, sz_9, fEl9) => r = ((x + nI i0) ^^^ nI i0) - sv ∧ sz_9 = sz_ + 3 ∧ okL ad fEl9 sz_9 (tl ++ [2, 51, 1])) (fun (u : (Int32) × (Nat) × (Nat → Option Nat)) (t : State) => match u with | (mdc9, sz_9, fEl9) => va_P (dC, dI) vwCl [(zo1iri bo mdc9 aEl (nI sz_9)), (zaR aEl cEl 10 fEl9)] t.heap ∧ va_K (dC, dI) vwCl [(cEl, .object "java/lang/Object")] t ∧ va_D (va_A [(zo1iri bo mdc aEl (nI sz_)), (zaR aEl cEl 10 fEl)] sz) [(zo1iri bo mdc9 aEl (nI sz_9)), (zaR aEl cEl 10 fEl9)]) (va_A [(zo1iri bo mdc aEl (nI sz_)), (zaR aEl cEl 10 fEl)] sz)) 0 0 (va_A [(zo1iri bo mdc aEl (nI sz_)), (zaR aEl cEl 10 fEl)] sz) := by
  refine met_ofQ (cc := cX3_doGoes) (maxL := 3) (ret := (some .int)) (by decide) rfl ?_
  intro p e s m args below meth c s₁ Q B hml hv hQ
  obtain ⟨rfl, hsz, hP, hK, hD0, hI_, hB_, hW_, hZ⟩ := hv
  have hx := B.exec
  have hb := B.bytes
  have hr := B.returns
  have hts := atoms_spec (ws := wsX3_doGoes) B.pre
  have hown : s.vm.findClass RX3 = some m.cls := findClass_of_methodNamed B.named
  have hlocks := B.notSynchronized
  subst hsz
  have hD := hD0.self (sz := s.heap.size)
  generalize hAe : va_A [(zo1iri bo mdc aEl (nI sz_)), (zaR aEl cEl 10 fEl)] s.heap.size = A at hD hQ hI_ hB_ hW_ hZ ⊢
  have hA : ∀ q : Nat, s.heap.size ≤ q → A q := fun q h => by rw [← hAe]; exact Or.inr h
  have hS : va_S A s.heap s.heap [] := va_S.rf
  have hl := lv_entry [.ref a0, .int x, .ref bo] (n := 3) (Nat.le_of_ble_eq_true rfl)
  rw [lg_entry_eq]
  generalize (lg_sl [.ref a0, .int x, .ref bo] ++ List.replicate (3 - (lg_sl [.ref a0, .int x, .ref bo]).length) Slot.unset).toArray = ls at hl ⊢
  generalize hag : ([.ref a0, .int x, .ref bo] : List Value).toArray = args at hts hQ ⊢
  have hl : lv_has ls 3 [(0, .ref a0), (1, .int x), (2, .ref bo)] := hl
  obtain ⟨H, hH⟩ : ∃ H : Heap, H = s.heap := ⟨_, rfl⟩
  rw [← hH] at hP
  rw [← hH]
  have hS : va_S A s.heap H [] := by rw [hH]; exact hS
  obtain ⟨locs, hlo⟩ : ∃ L : List Loc, L = [] := ⟨_, rfl⟩
  rw [← hlo] at hS
  rw [← hlo]
  clear hH hlo
  refine lv_iconst (v := 2) hx hb dX3_doGoes_0 (by decide) ?_
  refine lv_aload_n hx hb dX3_doGoes_1 rfl (lv_at hl 2 rfl) ?_
  have hPc := hP.sub (ws' := [(zo1iri bo mdc aEl (nI sz_)), (zaR aEl cEl 10 fEl)]) [0, 1] rfl
  have hDc := hD.sub (ws' := [(zo1iri bo mdc aEl (nI sz_)), (zaR aEl cEl 10 fEl)]) [0, 1] (by decide) rfl
  have hKc := hK.sub (tys' := [(cEl, .object "java/lang/Object")]) [0] rfl
  have hFc := va_free (wc := [(zo1iri bo mdc aEl (nI sz_)), (zaR aEl cEl 10 fEl)]) hD hS hA [0, 1] rfl
  refine va_callv (va_runS (As := [.int 2, .ref bo]) (rest := []) ⟨hx, hb, hml, hown, hts⟩ (c_begin1 l dC dI ad cB bS bo aEl 2 cEl fEl sz_ mdc tl H.size (by omega) (by omega) (zL)) (va_cwS 2 hts gX3_doGoes_X3_begin rfl rfl rfl hd_yX3_begin.2 ⟨Nat.le_of_ble_eq_true rfl, Nat.le_of_ble_eq_true rfl⟩) ⟨fun a U g mk q => by obtain ⟨q0, q1, qP, qK, qD, qhI_⟩ := q; exact ⟨q0, mvz g mk a q1, mvP g mk a qP, mvK g mk a qK, qD, qhI_.mv g mk a⟩, fun U hU hW => ⟨rfl, by rw [hU], by rw [hU]; exact hPc, va_K.moved hW.alike hKc, hDc.weaken (fun _ _ _ _ => trivial), hI_.call hS hU hW (fun q h => hFc q h)⟩⟩ rfl rfl hl.1 rfl (lv_room (Nat.le_of_ble_eq_true rfl)) dX3_doGoes_2 ⟨Nat.le_of_ble_eq_true rfl, Nat.le_of_ble_eq_true rfl⟩) hS (fun q _ h => hFc q h) hFc (fun u tC H1 locs htC hvm hw_2 hB hz1 hk1 hS => ?_)
  obtain ⟨mdc9_3, sz_9_4, fEl9_5⟩ := u
  try dsimp only at hw_2 hB
  obtain ⟨hP1, hK1, hD1⟩ := hB
  rw [htC] at hP1
  have hK1 := va_K.moved hvm.symm hK1
  obtain ⟨hP, hD⟩ := va_join (wr := []) (w1 := [(zo1iri bo mdc9_3 aEl (nI sz_9_4)), (zaR aEl cEl 10 fEl9_5)]) hP hD [0, 1] [] rfl rfl (by decide) (by decide) hk1 hFc hP1 hD1
  have hK := (hK.sub (tys' := []) [] rfl).app hK1
  generalize H1 = H at hP hS ⊢
  have hP : va_P (dC, dI) vwCl [(zo1iri bo mdc9_3 aEl (nI sz_9_4)), (zaR aEl cEl 10 fEl9_5)] H := hP
  have hD : va_D A [(zo1iri bo mdc9_3 aEl (nI sz_9_4)), (zaR aEl cEl 10 fEl9_5)] := hD
  have hK : va_K (dC, dI) vwCl [(cEl, .object "java/lang/Object")] s := hK
  obtain ⟨e_6, hL_7⟩ := hw_2
  obtain rfl := (e_6).symm
  refine lv_aload_n hx hb dX3_doGoes_5 rfl (lv_at hl 0 rfl) ?_
  refine lv_iload_n hx hb dX3_doGoes_6 rfl (lv_at hl 1 rfl) ?_
  refine lv_aload_n hx hb dX3_doGoes_7 rfl (lv_at hl 2 rfl) ?_
  have hPc := hP.sub (ws' := [(zo1iri bo mdc9_3 aEl (nI (sz_ + 1))), (zaR aEl cEl 10 fEl9_5)]) [0, 1] rfl
  have hDc := hD.sub (ws' := [(zo1iri bo mdc9_3 aEl (nI (sz_ + 1))), (zaR aEl cEl 10 fEl9_5)]) [0, 1] (by decide) rfl
  have hKc := hK.sub (tys' := [(cEl, .object "java/lang/Object")]) [0] rfl
  have hFc := va_free (wc := [(zo1iri bo mdc9_3 aEl (nI (sz_ + 1))), (zaR aEl cEl 10 fEl9_5)]) hD hS hA [0, 1] rfl
  refine va_calli (va_runU (As := [.int x, .ref bo]) (rest := []) ⟨hx, hb, hml, hown, hts⟩ (c_X9_doSees_X9_1 l dC dI ad cB bS    bo aEl i0 sk sv scl x cEl fEl9_5 a0 (sz_ + 1) mdc9_3 (tl ++ [2]) H.size (by omega) (hL_7)) (va_cwO 2 hts gX3_doGoes_X9_doSees_u38X9 rfl rfl rfl kc_X3_doGoes_X9_1_0 (by decide +kernel) ⟨Nat.le_of_ble_eq_true rfl, Nat.le_of_ble_eq_true rfl⟩) ⟨fun a U g mk q => by obtain ⟨q0, q1, qP, qK, qD, qhI_, qhB_, qhW_, qhZ⟩ := q; exact ⟨q0, mvz g mk a q1, mvP g mk a qP, mvK g mk a qK, qD, qhI_.mv g mk a, qhB_.mv g mk a, qhW_.mv g mk a, qhZ.mv g mk a⟩, va_recv hZ.2.1 (hZ.P hS) (ci := 11) (q := (RX9, TX9, 4)) (q0 := 0) rfl rfl, fun U hU hW => ⟨rfl, by rw [hU], by rw [hU]; exact hPc, va_K.moved hW.alike hKc, hDc.weaken (fun _ _ _ _ => trivial), hI_.call hS hU hW (fun q h => hFc q h), hB_.call hS hU hW (fun q h => hFc q h), hW_.call hS hU hW (fun q h => hFc q h), (hZ.sub [0] [] rfl rfl).call hS hU hW (fun q h => hFc q h)⟩⟩ rfl rfl hl.1 rfl (lv_room (Nat.le_of_ble_eq_true rfl)) dX3_doGoes_8 ⟨Nat.le_of_ble_eq_true rfl, Nat.le_of_ble_eq_true rfl⟩) hS (fun q _ h => hFc q h) hFc (fun r_8 u tC H1 locs htC hvm hw_9 hB hz1 hk1 hS => ?_)
  obtain ⟨mdc9_10, sz_9_11, fEl9_12⟩ := u
  try dsimp only at hw_9 hB
  obtain ⟨hP1, hK1, hD1⟩ := hB
  rw [htC] at hP1
  have hK1 := va_K.moved hvm.symm hK1
  obtain ⟨hP, hD⟩ := va_join (wr := []) (w1 := [(zo1iri bo mdc9_10 aEl (nI sz_9_11)), (zaR aEl cEl 10 fEl9_12)]) hP hD [0, 1] [] rfl rfl (by decide) (by decide) hk1 hFc hP1 hD1
  have hK := (hK.sub (tys' := []) [] rfl).app hK1
  generalize H1 = H at hP hS ⊢
  have hP : va_P (dC, dI) vwCl [(zo1iri bo mdc9_10 aEl (nI sz_9_11)), (zaR aEl cEl 10 fEl9_12)] H := hP
  have hD : va_D A [(zo1iri bo mdc9_10 aEl (nI sz_9_11)), (zaR aEl cEl 10 fEl9_12)] := hD
  have hK : va_K (dC, dI) vwCl [(cEl, .object "java/lang/Object")] s := hK
  obtain ⟨er_13, e_14, hL_15⟩ := hw_9
  obtain rfl := (e_14).symm
  subst er_13
  refine lv_aload_n hx hb dX3_doGoes_11 rfl (lv_at hl 0 rfl) ?_
  refine va_get (D := (dC, dI)) (ci := 11) (v := .int sv) (C := RX9) (T := TX9) (N := 4) hx hb hts kc_X3_doGoes_X9_1_2 hown hZ.2.1 (hZ.P hS) 0 rfl rfl 2 (by decide) (hts (.fieldLink RX3 18 "MistHeaps$Heap" "v" "I") kc_X3_doGoes_X9_1_1) (fun _ h9 => h9) rfl dX3_doGoes_12 ?_
  refine lv_isub hx hb dX3_doGoes_15 ?_
  rw [hQ]
  have hP9 := hP.sub (ws' := [(zo1iri bo mdc9_10 aEl (nI ((sz_ + 1) + 2))), (zaR aEl cEl 10 fEl9_12)]) [0, 1] rfl
  have hD9 := hD.sub (ws' := [(zo1iri bo mdc9_10 aEl (nI ((sz_ + 1) + 2))), (zaR aEl cEl 10 fEl9_12)]) [0, 1] (by decide) rfl
  have hK9 := hK.sub (tys' := [(cEl, .object "java/lang/Object")]) [0] rfl
  exact W.iret (v := ((x + nI i0) ^^^ nI i0) - sv) hx hb hr (fun tQ htQ hWQ => ⟨⟨(((x + nI i0) ^^^ nI i0) - sv), (mdc9_10, ((sz_ + 1) + 2), fEl9_12), rfl, ⟨rfl, by omega, by have h9 := okL_as (hL_15); exact h9⟩, by rw [htQ]; exact hP9, va_K.moved hWQ.alike hK9, hD9⟩, hS.F htQ⟩) hS.2.2 dX3_doGoes_16

theorem kc_X3_doGoes_X9_0_0 : (.code yX3_doSees cX3_doSees 3 (some .int) : Cond) ∈ wsX3_doGoes := kc_of 1025 rfl rfl rfl
theorem kc_X3_doGoes_X9_0_1 : (.fieldLink RX3 18 "MistHeaps$Heap" "v" "I" : Cond) ∈ wsX3_doGoes := kc_of 236 rfl rfl rfl
theorem kc_X3_doGoes_X9_0_2 : ∀ w ∈ wsX90, w ∈ wsX3_doGoes := fun w h => List.mem_cons_of_mem _ (gin_wsX90 w h)
set_option maxHeartbeats 4000000 in
set_option maxRecDepth 100000 in
theorem c_X3_doGoes_X9_0 (l : Launch) (dC : Nat → ClassId) (dI : Nat → Nat → Nat) (ad : Nat → Nat) (cB bS : Nat)    (bo : Nat) (i0 : Nat) (sk : Int32) (sv : Int32) (scl : Int32) (x : Int32) (a0 : Nat) (mdc : Int32) (sz : Nat) : Met l yX3_doGoes wsX3_doGoes ({ frames := 6, cells := 1, slots := 10, locals := 122 } : Room) (va_Pc [.ref a0, .int x, .ref bo] (fun U => U.heap.size = sz ∧ va_P (dC, dI) vwCl [(zo1iri bo mdc bS 0)] U.heap ∧ va_K (dC, dI) vwCl [] U ∧ va_D (fun _ => True) [(zo1iri bo mdc bS 0)] ∧ Gi ad cB bS (va_A [(zo1iri bo mdc bS 0)] sz) U ∧ Gb (va_A [(zo1iri bo mdc bS 0)] sz) U ∧ Gw (va_A [(zo1iri bo mdc bS 0)] sz) U ∧ Fz dC dI [(zo11iiii a0 sk (nI i0) sv scl)] [] (va_A [(zo1iri bo mdc bS 0)] sz) U)) (va_Qi (fun (r : Int32) (u : (Int32) × (Nat) × (ClassId) × (Nat) × (Nat → Option Nat)) => match u with | (mdc9, aEl9, cEl9, sz_9, fEl9) => r = ((x + nI i0) ^^^ nI i0) - sv ∧ sz_9 = 3 ∧ okL ad fEl9 sz_9 [2, 51, 1]) (fun (u : (Int32) × (Nat) × (ClassId) × (Nat) × (Nat → Option Nat)) (t : State) => match u with | (mdc9, aEl9, cEl9, sz_9, fEl9) => va_P (dC, dI) vwCl [(zo1iri bo mdc9 aEl9 (nI sz_9)), (zaR aEl9 cEl9 10 fEl9)] t.heap ∧ va_K (dC, dI) vwCl [(cEl9, .object "java/lang/Object")] t ∧ va_D (va_A [(zo1iri bo mdc bS 0)] sz) [(zo1iri bo mdc9 aEl9 (nI sz_9)), (zaR aEl9 cEl9 10 fEl9)]) (va_A [(zo1iri bo mdc bS 0)] sz)) 1 10 (va_A [(zo1iri bo mdc bS 0)] sz) := by
  refine met_ofQ (cc := cX3_doGoes) (maxL := 3) (ret := (some .int)) (by decide) rfl ?_
  intro p e s m args below meth c s₁ Q B hml hv hQ
  obtain ⟨rfl, hsz, hP, hK, hD0, hI_, hB_, hW_, hZ⟩ := hv
  have hx := B.exec
  have hb := B.bytes
  have hr := B.returns
  have hts := atoms_spec (ws := wsX3_doGoes) B.pre
  have hown : s.vm.findClass RX3 = some m.cls := findClass_of_methodNamed B.named
  have hlocks := B.notSynchronized
  subst hsz
  have hD := hD0.self (sz := s.heap.size)
  generalize hAe : va_A [(zo1iri bo mdc bS 0)] s.heap.size = A at hD hQ hI_ hB_ hW_ hZ ⊢
  have hA : ∀ q : Nat, s.heap.size ≤ q → A q := fun q h => by rw [← hAe]; exact Or.inr h
  have hS : va_S A s.heap s.heap [] := va_S.rf
  have hl := lv_entry [.ref a0, .int x, .ref bo] (n := 3) (Nat.le_of_ble_eq_true rfl)
  rw [lg_entry_eq]
  generalize (lg_sl [.ref a0, .int x, .ref bo] ++ List.replicate (3 - (lg_sl [.ref a0, .int x, .ref bo]).length) Slot.unset).toArray = ls at hl ⊢
  generalize hag : ([.ref a0, .int x, .ref bo] : List Value).toArray = args at hts hQ ⊢
  have hl : lv_has ls 3 [(0, .ref a0), (1, .int x), (2, .ref bo)] := hl
  obtain ⟨H, hH⟩ : ∃ H : Heap, H = s.heap := ⟨_, rfl⟩
  rw [← hH] at hP
  rw [← hH]
  have hS : va_S A s.heap H [] := by rw [hH]; exact hS
  obtain ⟨locs, hlo⟩ : ∃ L : List Loc, L = [] := ⟨_, rfl⟩
  rw [← hlo] at hS
  rw [← hlo]
  clear hH hlo
  refine lv_iconst (v := 2) hx hb dX3_doGoes_0 (by decide) ?_
  refine lv_aload_n hx hb dX3_doGoes_1 rfl (lv_at hl 2 rfl) ?_
  have hPc := hP.sub (ws' := [(zo1iri bo mdc bS 0)]) [0] rfl
  have hDc := hD.sub (ws' := [(zo1iri bo mdc bS 0)]) [0] (by decide) rfl
  have hKc := hK.sub (tys' := []) [] rfl
  have hFc := va_free (wc := [(zo1iri bo mdc bS 0)]) hD hS hA [0] rfl
  refine va_callv (va_runS (As := [.int 2, .ref bo]) (rest := []) ⟨hx, hb, hml, hown, hts⟩ (c_begin0 l dC dI ad cB bS bo mdc 2 H.size (by omega)) (va_cwS 2 hts gX3_doGoes_X3_begin rfl rfl rfl hd_yX3_begin.2 ⟨Nat.le_of_ble_eq_true rfl, Nat.le_of_ble_eq_true rfl⟩) ⟨fun a U g mk q => by obtain ⟨q0, q1, qP, qK, qD, qhI_⟩ := q; exact ⟨q0, mvz g mk a q1, mvP g mk a qP, mvK g mk a qK, qD, qhI_.mv g mk a⟩, fun U hU hW => ⟨rfl, by rw [hU], by rw [hU]; exact hPc, va_K.moved hW.alike hKc, hDc.weaken (fun _ _ _ _ => trivial), hI_.call hS hU hW (fun q h => hFc q h)⟩⟩ rfl rfl hl.1 rfl (lv_room (Nat.le_of_ble_eq_true rfl)) dX3_doGoes_2 ⟨Nat.le_of_ble_eq_true rfl, Nat.le_of_ble_eq_true rfl⟩) hS (fun q _ h => hFc q h) hFc (fun u tC H1 locs htC hvm hw_2 hB hz1 hk1 hS => ?_)
  obtain ⟨mdc9_3, aEl9_4, cEl9_5, sz_9_6, fEl9_7⟩ := u
  try dsimp only at hw_2 hB
  obtain ⟨hP1, hK1, hD1⟩ := hB
  rw [htC] at hP1
  have hK1 := va_K.moved hvm.symm hK1
  obtain ⟨hP, hD⟩ := va_join (wr := []) (w1 := [(zo1iri bo mdc9_3 aEl9_4 (nI sz_9_6)), (zaR aEl9_4 cEl9_5 10 fEl9_7)]) hP hD [0] [] rfl rfl (by decide) (by decide) hk1 hFc hP1 hD1
  have hK := (hK.sub (tys' := []) [] rfl).app hK1
  generalize H1 = H at hP hS ⊢
  have hP : va_P (dC, dI) vwCl [(zo1iri bo mdc9_3 aEl9_4 (nI sz_9_6)), (zaR aEl9_4 cEl9_5 10 fEl9_7)] H := hP
  have hD : va_D A [(zo1iri bo mdc9_3 aEl9_4 (nI sz_9_6)), (zaR aEl9_4 cEl9_5 10 fEl9_7)] := hD
  have hK : va_K (dC, dI) vwCl [(cEl9_5, .object "java/lang/Object")] s := hK
  refine W.widen (k := 1) (n := 10) (by omega) (by omega) ?_
  obtain ⟨e_8, hL_9⟩ := hw_2
  obtain rfl := (e_8).symm
  refine lv_aload_n hx hb dX3_doGoes_5 rfl (lv_at hl 0 rfl) ?_
  refine lv_iload_n hx hb dX3_doGoes_6 rfl (lv_at hl 1 rfl) ?_
  refine lv_aload_n hx hb dX3_doGoes_7 rfl (lv_at hl 2 rfl) ?_
  have hPc := hP.sub (ws' := [(zo1iri bo mdc9_3 aEl9_4 (nI 1)), (zaR aEl9_4 cEl9_5 10 fEl9_7)]) [0, 1] rfl
  have hDc := hD.sub (ws' := [(zo1iri bo mdc9_3 aEl9_4 (nI 1)), (zaR aEl9_4 cEl9_5 10 fEl9_7)]) [0, 1] (by decide) rfl
  have hKc := hK.sub (tys' := [(cEl9_5, .object "java/lang/Object")]) [0] rfl
  have hFc := va_free (wc := [(zo1iri bo mdc9_3 aEl9_4 (nI 1)), (zaR aEl9_4 cEl9_5 10 fEl9_7)]) hD hS hA [0, 1] rfl
  refine va_calli (va_runU (As := [.int x, .ref bo]) (rest := []) ⟨hx, hb, hml, hown, hts⟩ (c_X9_doSees_X9_1 l dC dI ad cB bS    bo aEl9_4 i0 sk sv scl x cEl9_5 fEl9_7 a0 1 mdc9_3 ([2]) H.size (by omega) (hL_9)) (va_cwO 2 hts gX3_doGoes_X9_doSees_u38X9 rfl rfl rfl kc_X3_doGoes_X9_0_0 (by decide +kernel) ⟨Nat.le_of_ble_eq_true rfl, Nat.le_of_ble_eq_true rfl⟩) ⟨fun a U g mk q => by obtain ⟨q0, q1, qP, qK, qD, qhI_, qhB_, qhW_, qhZ⟩ := q; exact ⟨q0, mvz g mk a q1, mvP g mk a qP, mvK g mk a qK, qD, qhI_.mv g mk a, qhB_.mv g mk a, qhW_.mv g mk a, qhZ.mv g mk a⟩, va_recv hZ.2.1 (hZ.P hS) (ci := 11) (q := (RX9, TX9, 4)) (q0 := 0) rfl rfl, fun U hU hW => ⟨rfl, by rw [hU], by rw [hU]; exact hPc, va_K.moved hW.alike hKc, hDc.weaken (fun _ _ _ _ => trivial), hI_.call hS hU hW (fun q h => hFc q h), hB_.call hS hU hW (fun q h => hFc q h), hW_.call hS hU hW (fun q h => hFc q h), (hZ.sub [0] [] rfl rfl).call hS hU hW (fun q h => hFc q h)⟩⟩ rfl rfl hl.1 rfl (lv_room (Nat.le_of_ble_eq_true rfl)) dX3_doGoes_8 ⟨Nat.le_of_ble_eq_true rfl, Nat.le_of_ble_eq_true rfl⟩) hS (fun q _ h => hFc q h) hFc (fun r_10 u tC H1 locs htC hvm hw_11 hB hz1 hk1 hS => ?_)
  obtain ⟨mdc9_12, sz_9_13, fEl9_14⟩ := u
  try dsimp only at hw_11 hB
  obtain ⟨hP1, hK1, hD1⟩ := hB
  rw [htC] at hP1
  have hK1 := va_K.moved hvm.symm hK1
  obtain ⟨hP, hD⟩ := va_join (wr := []) (w1 := [(zo1iri bo mdc9_12 aEl9_4 (nI sz_9_13)), (zaR aEl9_4 cEl9_5 10 fEl9_14)]) hP hD [0, 1] [] rfl rfl (by decide) (by decide) hk1 hFc hP1 hD1
  have hK := (hK.sub (tys' := []) [] rfl).app hK1
  generalize H1 = H at hP hS ⊢
  have hP : va_P (dC, dI) vwCl [(zo1iri bo mdc9_12 aEl9_4 (nI sz_9_13)), (zaR aEl9_4 cEl9_5 10 fEl9_14)] H := hP
  have hD : va_D A [(zo1iri bo mdc9_12 aEl9_4 (nI sz_9_13)), (zaR aEl9_4 cEl9_5 10 fEl9_14)] := hD
  have hK : va_K (dC, dI) vwCl [(cEl9_5, .object "java/lang/Object")] s := hK
  obtain ⟨er_15, e_16, hL_17⟩ := hw_11
  obtain rfl := (e_16).symm
  subst er_15
  refine lv_aload_n hx hb dX3_doGoes_11 rfl (lv_at hl 0 rfl) ?_
  refine va_get (D := (dC, dI)) (ci := 11) (v := .int sv) (C := RX9) (T := TX9) (N := 4) hx hb hts kc_X3_doGoes_X9_0_2 hown hZ.2.1 (hZ.P hS) 0 rfl rfl 2 (by decide) (hts (.fieldLink RX3 18 "MistHeaps$Heap" "v" "I") kc_X3_doGoes_X9_0_1) (fun _ h9 => h9) rfl dX3_doGoes_12 ?_
  refine lv_isub hx hb dX3_doGoes_15 ?_
  rw [hQ]
  have hP9 := hP.sub (ws' := [(zo1iri bo mdc9_12 aEl9_4 (nI (1 + 2))), (zaR aEl9_4 cEl9_5 10 fEl9_14)]) [0, 1] rfl
  have hD9 := hD.sub (ws' := [(zo1iri bo mdc9_12 aEl9_4 (nI (1 + 2))), (zaR aEl9_4 cEl9_5 10 fEl9_14)]) [0, 1] (by decide) rfl
  have hK9 := hK.sub (tys' := [(cEl9_5, .object "java/lang/Object")]) [0] rfl
  refine W.widen (k := 1) (n := 10) (by omega) (by omega) ?_
  exact W.iret (v := ((x + nI i0) ^^^ nI i0) - sv) hx hb hr (fun tQ htQ hWQ => ⟨⟨(((x + nI i0) ^^^ nI i0) - sv), (mdc9_12, aEl9_4, cEl9_5, (1 + 2), fEl9_14), rfl, ⟨rfl, by omega, hL_17⟩, by rw [htQ]; exact hP9, va_K.moved hWQ.alike hK9, hD9⟩, hS.F htQ⟩) hS.2.2 dX3_doGoes_16

set_option maxHeartbeats 4000000 in
set_option maxRecDepth 100000 in
theorem c_X6_doGoes_X9_1 (l : Launch) (dC : Nat → ClassId) (dI : Nat → Nat → Nat) (ad : Nat → Nat) (cB bS : Nat)    (bo : Nat) (aEl : Nat) (i0 : Nat) (sk : Int32) (sv : Int32) (scl : Int32) (x : Int32) (cEl : ClassId) (fEl : Nat → Option Nat) (a0 : Nat) (sz_ : Nat) (mdc : Int32) (tl : List Nat) (sz : Nat) (hsz : sz_ + 4 ≤ 10) (zL : okL ad fEl sz_ tl) : Met l yX6_doGoes wsX6_doGoes ({ frames := 6, cells := 0, slots := 0, locals := 131 } : Room) (va_Pc [.ref a0, .int x, .ref bo] (fun U => U.heap.size = sz ∧ va_P (dC, dI) vwCl [(zo1iri bo mdc aEl (nI sz_)), (zaR aEl cEl 10 fEl)] U.heap ∧ va_K (dC, dI) vwCl [(cEl, .object "java/lang/Object")] U ∧ va_D (fun _ => True) [(zo1iri bo mdc aEl (nI sz_)), (zaR aEl cEl 10 fEl)] ∧ Gi ad cB bS (va_A [(zo1iri bo mdc aEl (nI sz_)), (zaR aEl cEl 10 fEl)] sz) U ∧ Gb (va_A [(zo1iri bo mdc aEl (nI sz_)), (zaR aEl cEl 10 fEl)] sz) U ∧ Gw (va_A [(zo1iri bo mdc aEl (nI sz_)), (zaR aEl cEl 10 fEl)] sz) U ∧ Fz dC dI [(zo11iiii a0 sk (nI i0) sv scl)] [] (va_A [(zo1iri bo mdc aEl (nI sz_)), (zaR aEl cEl 10 fEl)] sz) U)) (va_Qi (fun (r : Int32) (u : (Int32) × (Nat) × (Nat → Option Nat)) => match u with | (mdc9, sz_9, fEl9) => r = -(((x + nI i0) ^^^ nI i0) - sv) ∧ sz_9 = sz_ + 4 ∧ okL ad fEl9 sz_9 (tl ++ [21, 2, 51, 1])) (fun (u : (Int32) × (Nat) × (Nat → Option Nat)) (t : State) => match u with | (mdc9, sz_9, fEl9) => va_P (dC, dI) vwCl [(zo1iri bo mdc9 aEl (nI sz_9)), (zaR aEl cEl 10 fEl9)] t.heap ∧ va_K (dC, dI) vwCl [(cEl, .object "java/lang/Object")] t ∧ va_D (va_A [(zo1iri bo mdc aEl (nI sz_)), (zaR aEl cEl 10 fEl)] sz) [(zo1iri bo mdc9 aEl (nI sz_9)), (zaR aEl cEl 10 fEl9)]) (va_A [(zo1iri bo mdc aEl (nI sz_)), (zaR aEl cEl 10 fEl)] sz)) 0 0 (va_A [(zo1iri bo mdc aEl (nI sz_)), (zaR aEl cEl 10 fEl)] sz) := by
  refine met_ofQ (cc := cX6_doGoes) (maxL := 3) (ret := (some .int)) (by decide) rfl ?_
  intro p e s m args below meth c s₁ Q B hml hv hQ
  obtain ⟨rfl, hsz, hP, hK, hD0, hI_, hB_, hW_, hZ⟩ := hv
  have hx := B.exec
  have hb := B.bytes
  have hr := B.returns
  have hts := atoms_spec (ws := wsX6_doGoes) B.pre
  have hown : s.vm.findClass RX6 = some m.cls := findClass_of_methodNamed B.named
  have hlocks := B.notSynchronized
  subst hsz
  have hD := hD0.self (sz := s.heap.size)
  generalize hAe : va_A [(zo1iri bo mdc aEl (nI sz_)), (zaR aEl cEl 10 fEl)] s.heap.size = A at hD hQ hI_ hB_ hW_ hZ ⊢
  have hA : ∀ q : Nat, s.heap.size ≤ q → A q := fun q h => by rw [← hAe]; exact Or.inr h
  have hS : va_S A s.heap s.heap [] := va_S.rf
  have hl := lv_entry [.ref a0, .int x, .ref bo] (n := 3) (Nat.le_of_ble_eq_true rfl)
  rw [lg_entry_eq]
  generalize (lg_sl [.ref a0, .int x, .ref bo] ++ List.replicate (3 - (lg_sl [.ref a0, .int x, .ref bo]).length) Slot.unset).toArray = ls at hl ⊢
  generalize hag : ([.ref a0, .int x, .ref bo] : List Value).toArray = args at hts hQ ⊢
  have hl : lv_has ls 3 [(0, .ref a0), (1, .int x), (2, .ref bo)] := hl
  obtain ⟨H, hH⟩ : ∃ H : Heap, H = s.heap := ⟨_, rfl⟩
  rw [← hH] at hP
  rw [← hH]
  have hS : va_S A s.heap H [] := by rw [hH]; exact hS
  obtain ⟨locs, hlo⟩ : ∃ L : List Loc, L = [] := ⟨_, rfl⟩
  rw [← hlo] at hS
  rw [← hlo]
  clear hH hlo
  refine lv_bipush (v := 21) hx hb dX6_doGoes_0 (by decide) ?_
  refine lv_aload_n hx hb dX6_doGoes_2 rfl (lv_at hl 2 rfl) ?_
  have hPc := hP.sub (ws' := [(zo1iri bo mdc aEl (nI sz_)), (zaR aEl cEl 10 fEl)]) [0, 1] rfl
  have hDc := hD.sub (ws' := [(zo1iri bo mdc aEl (nI sz_)), (zaR aEl cEl 10 fEl)]) [0, 1] (by decide) rfl
  have hKc := hK.sub (tys' := [(cEl, .object "java/lang/Object")]) [0] rfl
  have hFc := va_free (wc := [(zo1iri bo mdc aEl (nI sz_)), (zaR aEl cEl 10 fEl)]) hD hS hA [0, 1] rfl
  refine va_callv (va_runU2 (As := [.int 21, .ref bo]) (rest := []) ⟨hx, hb, hml, hown, hts⟩ (c_begin1 l dC dI ad cB bS bo aEl 21 cEl fEl sz_ mdc tl H.size (by omega) (by omega) (zL)) (u2_cw (x := xb6) 2 hB_ inb6 rfl rfl rfl rfl rfl (by decide +kernel) ⟨Nat.le_of_ble_eq_true rfl, Nat.le_of_ble_eq_true rfl⟩) ⟨fun a U g mk q => by obtain ⟨q0, q1, qP, qK, qD, qhI_⟩ := q; exact ⟨q0, mvz g mk a q1, mvP g mk a qP, mvK g mk a qK, qD, qhI_.mv g mk a⟩, fun U hU hW => ⟨rfl, by rw [hU], by rw [hU]; exact hPc, va_K.moved hW.alike hKc, hDc.weaken (fun _ _ _ _ => trivial), hI_.call hS hU hW (fun q h => hFc q h)⟩⟩ rfl rfl hl.1 rfl (lv_room (Nat.le_of_ble_eq_true rfl)) dX6_doGoes_3 ⟨Nat.le_of_ble_eq_true rfl, Nat.le_of_ble_eq_true rfl⟩) hS (fun q _ h => hFc q h) hFc (fun u tC H1 locs htC hvm hw_2 hB hz1 hk1 hS => ?_)
  obtain ⟨mdc9_3, sz_9_4, fEl9_5⟩ := u
  try dsimp only at hw_2 hB
  obtain ⟨hP1, hK1, hD1⟩ := hB
  rw [htC] at hP1
  have hK1 := va_K.moved hvm.symm hK1
  obtain ⟨hP, hD⟩ := va_join (wr := []) (w1 := [(zo1iri bo mdc9_3 aEl (nI sz_9_4)), (zaR aEl cEl 10 fEl9_5)]) hP hD [0, 1] [] rfl rfl (by decide) (by decide) hk1 hFc hP1 hD1
  have hK := (hK.sub (tys' := []) [] rfl).app hK1
  generalize H1 = H at hP hS ⊢
  have hP : va_P (dC, dI) vwCl [(zo1iri bo mdc9_3 aEl (nI sz_9_4)), (zaR aEl cEl 10 fEl9_5)] H := hP
  have hD : va_D A [(zo1iri bo mdc9_3 aEl (nI sz_9_4)), (zaR aEl cEl 10 fEl9_5)] := hD
  have hK : va_K (dC, dI) vwCl [(cEl, .object "java/lang/Object")] s := hK
  obtain ⟨e_6, hL_7⟩ := hw_2
  obtain rfl := (e_6).symm
  refine lv_aload_n hx hb dX6_doGoes_6 rfl (lv_at hl 0 rfl) ?_
  refine lv_iload_n hx hb dX6_doGoes_7 rfl (lv_at hl 1 rfl) ?_
  refine lv_aload_n hx hb dX6_doGoes_8 rfl (lv_at hl 2 rfl) ?_
  have hPc := hP.sub (ws' := [(zo1iri bo mdc9_3 aEl (nI (sz_ + 1))), (zaR aEl cEl 10 fEl9_5)]) [0, 1] rfl
  have hDc := hD.sub (ws' := [(zo1iri bo mdc9_3 aEl (nI (sz_ + 1))), (zaR aEl cEl 10 fEl9_5)]) [0, 1] (by decide) rfl
  have hKc := hK.sub (tys' := [(cEl, .object "java/lang/Object")]) [0] rfl
  have hFc := va_free (wc := [(zo1iri bo mdc9_3 aEl (nI (sz_ + 1))), (zaR aEl cEl 10 fEl9_5)]) hD hS hA [0, 1] rfl
  refine va_calli (va_runSU (hZ.2.1.1 11 (RX9, TX9, 4) rfl).2 (As := [.int x, .ref bo]) (rest := []) ⟨hx, hb, hml, hown, hts⟩ (c_X3_doGoes_X9_1 l dC dI ad cB bS    bo aEl i0 sk sv scl x cEl fEl9_5 a0 (sz_ + 1) mdc9_3 (tl ++ [21]) H.size (by omega) (hL_7)) (va_cwSU 2 hts gX6_doGoes_X3_doGoes_s17 rfl rfl rfl (by decide +kernel) ⟨Nat.le_of_ble_eq_true rfl, Nat.le_of_ble_eq_true rfl⟩) ⟨fun a U g mk q => by obtain ⟨q0, q1, qP, qK, qD, qhI_, qhB_, qhW_, qhZ⟩ := q; exact ⟨q0, mvz g mk a q1, mvP g mk a qP, mvK g mk a qK, qD, qhI_.mv g mk a, qhB_.mv g mk a, qhW_.mv g mk a, qhZ.mv g mk a⟩, va_recv hZ.2.1 (hZ.P hS) (ci := 11) (q := (RX9, TX9, 4)) (q0 := 0) rfl rfl, fun U hU hW => ⟨rfl, by rw [hU], by rw [hU]; exact hPc, va_K.moved hW.alike hKc, hDc.weaken (fun _ _ _ _ => trivial), hI_.call hS hU hW (fun q h => hFc q h), hB_.call hS hU hW (fun q h => hFc q h), hW_.call hS hU hW (fun q h => hFc q h), (hZ.sub [0] [] rfl rfl).call hS hU hW (fun q h => hFc q h)⟩⟩ rfl rfl hl.1 rfl (lv_room (Nat.le_of_ble_eq_true rfl)) dX6_doGoes_9 ⟨Nat.le_of_ble_eq_true rfl, Nat.le_of_ble_eq_true rfl⟩) hS (fun q _ h => hFc q h) hFc (fun r_8 u tC H1 locs htC hvm hw_9 hB hz1 hk1 hS => ?_)
  obtain ⟨mdc9_10, sz_9_11, fEl9_12⟩ := u
  try dsimp only at hw_9 hB
  obtain ⟨hP1, hK1, hD1⟩ := hB
  rw [htC] at hP1
  have hK1 := va_K.moved hvm.symm hK1
  obtain ⟨hP, hD⟩ := va_join (wr := []) (w1 := [(zo1iri bo mdc9_10 aEl (nI sz_9_11)), (zaR aEl cEl 10 fEl9_12)]) hP hD [0, 1] [] rfl rfl (by decide) (by decide) hk1 hFc hP1 hD1
  have hK := (hK.sub (tys' := []) [] rfl).app hK1
  generalize H1 = H at hP hS ⊢
  have hP : va_P (dC, dI) vwCl [(zo1iri bo mdc9_10 aEl (nI sz_9_11)), (zaR aEl cEl 10 fEl9_12)] H := hP
  have hD : va_D A [(zo1iri bo mdc9_10 aEl (nI sz_9_11)), (zaR aEl cEl 10 fEl9_12)] := hD
  have hK : va_K (dC, dI) vwCl [(cEl, .object "java/lang/Object")] s := hK
  obtain ⟨er_13, e_14, hL_15⟩ := hw_9
  obtain rfl := (e_14).symm
  subst er_13
  refine lv_ineg hx hb dX6_doGoes_12 ?_
  rw [hQ]
  have hP9 := hP.sub (ws' := [(zo1iri bo mdc9_10 aEl (nI ((sz_ + 1) + 3))), (zaR aEl cEl 10 fEl9_12)]) [0, 1] rfl
  have hD9 := hD.sub (ws' := [(zo1iri bo mdc9_10 aEl (nI ((sz_ + 1) + 3))), (zaR aEl cEl 10 fEl9_12)]) [0, 1] (by decide) rfl
  have hK9 := hK.sub (tys' := [(cEl, .object "java/lang/Object")]) [0] rfl
  exact W.iret (v := -(((x + nI i0) ^^^ nI i0) - sv)) hx hb hr (fun tQ htQ hWQ => ⟨⟨(-(((x + nI i0) ^^^ nI i0) - sv)), (mdc9_10, ((sz_ + 1) + 3), fEl9_12), rfl, ⟨rfl, by omega, by have h9 := okL_as (hL_15); exact h9⟩, by rw [htQ]; exact hP9, va_K.moved hWQ.alike hK9, hD9⟩, hS.F htQ⟩) hS.2.2 dX6_doGoes_13

set_option maxHeartbeats 4000000 in
set_option maxRecDepth 100000 in
theorem c_X6_doGoes_X9_0 (l : Launch) (dC : Nat → ClassId) (dI : Nat → Nat → Nat) (ad : Nat → Nat) (cB bS : Nat)    (bo : Nat) (i0 : Nat) (sk : Int32) (sv : Int32) (scl : Int32) (x : Int32) (a0 : Nat) (mdc : Int32) (sz : Nat) : Met l yX6_doGoes wsX6_doGoes ({ frames := 6, cells := 1, slots := 10, locals := 131 } : Room) (va_Pc [.ref a0, .int x, .ref bo] (fun U => U.heap.size = sz ∧ va_P (dC, dI) vwCl [(zo1iri bo mdc bS 0)] U.heap ∧ va_K (dC, dI) vwCl [] U ∧ va_D (fun _ => True) [(zo1iri bo mdc bS 0)] ∧ Gi ad cB bS (va_A [(zo1iri bo mdc bS 0)] sz) U ∧ Gb (va_A [(zo1iri bo mdc bS 0)] sz) U ∧ Gw (va_A [(zo1iri bo mdc bS 0)] sz) U ∧ Fz dC dI [(zo11iiii a0 sk (nI i0) sv scl)] [] (va_A [(zo1iri bo mdc bS 0)] sz) U)) (va_Qi (fun (r : Int32) (u : (Int32) × (Nat) × (ClassId) × (Nat) × (Nat → Option Nat)) => match u with | (mdc9, aEl9, cEl9, sz_9, fEl9) => r = -(((x + nI i0) ^^^ nI i0) - sv) ∧ sz_9 = 4 ∧ okL ad fEl9 sz_9 [21, 2, 51, 1]) (fun (u : (Int32) × (Nat) × (ClassId) × (Nat) × (Nat → Option Nat)) (t : State) => match u with | (mdc9, aEl9, cEl9, sz_9, fEl9) => va_P (dC, dI) vwCl [(zo1iri bo mdc9 aEl9 (nI sz_9)), (zaR aEl9 cEl9 10 fEl9)] t.heap ∧ va_K (dC, dI) vwCl [(cEl9, .object "java/lang/Object")] t ∧ va_D (va_A [(zo1iri bo mdc bS 0)] sz) [(zo1iri bo mdc9 aEl9 (nI sz_9)), (zaR aEl9 cEl9 10 fEl9)]) (va_A [(zo1iri bo mdc bS 0)] sz)) 1 10 (va_A [(zo1iri bo mdc bS 0)] sz) := by
  refine met_ofQ (cc := cX6_doGoes) (maxL := 3) (ret := (some .int)) (by decide) rfl ?_
  intro p e s m args below meth c s₁ Q B hml hv hQ
  obtain ⟨rfl, hsz, hP, hK, hD0, hI_, hB_, hW_, hZ⟩ := hv
  have hx := B.exec
  have hb := B.bytes
  have hr := B.returns
  have hts := atoms_spec (ws := wsX6_doGoes) B.pre
  have hown : s.vm.findClass RX6 = some m.cls := findClass_of_methodNamed B.named
  have hlocks := B.notSynchronized
  subst hsz
  have hD := hD0.self (sz := s.heap.size)
  generalize hAe : va_A [(zo1iri bo mdc bS 0)] s.heap.size = A at hD hQ hI_ hB_ hW_ hZ ⊢
  have hA : ∀ q : Nat, s.heap.size ≤ q → A q := fun q h => by rw [← hAe]; exact Or.inr h
  have hS : va_S A s.heap s.heap [] := va_S.rf
  have hl := lv_entry [.ref a0, .int x, .ref bo] (n := 3) (Nat.le_of_ble_eq_true rfl)
  rw [lg_entry_eq]
  generalize (lg_sl [.ref a0, .int x, .ref bo] ++ List.replicate (3 - (lg_sl [.ref a0, .int x, .ref bo]).length) Slot.unset).toArray = ls at hl ⊢
  generalize hag : ([.ref a0, .int x, .ref bo] : List Value).toArray = args at hts hQ ⊢
  have hl : lv_has ls 3 [(0, .ref a0), (1, .int x), (2, .ref bo)] := hl
  obtain ⟨H, hH⟩ : ∃ H : Heap, H = s.heap := ⟨_, rfl⟩
  rw [← hH] at hP
  rw [← hH]
  have hS : va_S A s.heap H [] := by rw [hH]; exact hS
  obtain ⟨locs, hlo⟩ : ∃ L : List Loc, L = [] := ⟨_, rfl⟩
  rw [← hlo] at hS
  rw [← hlo]
  clear hH hlo
  refine lv_bipush (v := 21) hx hb dX6_doGoes_0 (by decide) ?_
  refine lv_aload_n hx hb dX6_doGoes_2 rfl (lv_at hl 2 rfl) ?_
  have hPc := hP.sub (ws' := [(zo1iri bo mdc bS 0)]) [0] rfl
  have hDc := hD.sub (ws' := [(zo1iri bo mdc bS 0)]) [0] (by decide) rfl
  have hKc := hK.sub (tys' := []) [] rfl
  have hFc := va_free (wc := [(zo1iri bo mdc bS 0)]) hD hS hA [0] rfl
  refine va_callv (va_runU2 (As := [.int 21, .ref bo]) (rest := []) ⟨hx, hb, hml, hown, hts⟩ (c_begin0 l dC dI ad cB bS bo mdc 21 H.size (by omega)) (u2_cw (x := xb6) 2 hB_ inb6 rfl rfl rfl rfl rfl (by decide +kernel) ⟨Nat.le_of_ble_eq_true rfl, Nat.le_of_ble_eq_true rfl⟩) ⟨fun a U g mk q => by obtain ⟨q0, q1, qP, qK, qD, qhI_⟩ := q; exact ⟨q0, mvz g mk a q1, mvP g mk a qP, mvK g mk a qK, qD, qhI_.mv g mk a⟩, fun U hU hW => ⟨rfl, by rw [hU], by rw [hU]; exact hPc, va_K.moved hW.alike hKc, hDc.weaken (fun _ _ _ _ => trivial), hI_.call hS hU hW (fun q h => hFc q h)⟩⟩ rfl rfl hl.1 rfl (lv_room (Nat.le_of_ble_eq_true rfl)) dX6_doGoes_3 ⟨Nat.le_of_ble_eq_true rfl, Nat.le_of_ble_eq_true rfl⟩) hS (fun q _ h => hFc q h) hFc (fun u tC H1 locs htC hvm hw_2 hB hz1 hk1 hS => ?_)
  obtain ⟨mdc9_3, aEl9_4, cEl9_5, sz_9_6, fEl9_7⟩ := u
  try dsimp only at hw_2 hB
  obtain ⟨hP1, hK1, hD1⟩ := hB
  rw [htC] at hP1
  have hK1 := va_K.moved hvm.symm hK1
  obtain ⟨hP, hD⟩ := va_join (wr := []) (w1 := [(zo1iri bo mdc9_3 aEl9_4 (nI sz_9_6)), (zaR aEl9_4 cEl9_5 10 fEl9_7)]) hP hD [0] [] rfl rfl (by decide) (by decide) hk1 hFc hP1 hD1
  have hK := (hK.sub (tys' := []) [] rfl).app hK1
  generalize H1 = H at hP hS ⊢
  have hP : va_P (dC, dI) vwCl [(zo1iri bo mdc9_3 aEl9_4 (nI sz_9_6)), (zaR aEl9_4 cEl9_5 10 fEl9_7)] H := hP
  have hD : va_D A [(zo1iri bo mdc9_3 aEl9_4 (nI sz_9_6)), (zaR aEl9_4 cEl9_5 10 fEl9_7)] := hD
  have hK : va_K (dC, dI) vwCl [(cEl9_5, .object "java/lang/Object")] s := hK
  refine W.widen (k := 1) (n := 10) (by omega) (by omega) ?_
  obtain ⟨e_8, hL_9⟩ := hw_2
  obtain rfl := (e_8).symm
  refine lv_aload_n hx hb dX6_doGoes_6 rfl (lv_at hl 0 rfl) ?_
  refine lv_iload_n hx hb dX6_doGoes_7 rfl (lv_at hl 1 rfl) ?_
  refine lv_aload_n hx hb dX6_doGoes_8 rfl (lv_at hl 2 rfl) ?_
  have hPc := hP.sub (ws' := [(zo1iri bo mdc9_3 aEl9_4 (nI 1)), (zaR aEl9_4 cEl9_5 10 fEl9_7)]) [0, 1] rfl
  have hDc := hD.sub (ws' := [(zo1iri bo mdc9_3 aEl9_4 (nI 1)), (zaR aEl9_4 cEl9_5 10 fEl9_7)]) [0, 1] (by decide) rfl
  have hKc := hK.sub (tys' := [(cEl9_5, .object "java/lang/Object")]) [0] rfl
  have hFc := va_free (wc := [(zo1iri bo mdc9_3 aEl9_4 (nI 1)), (zaR aEl9_4 cEl9_5 10 fEl9_7)]) hD hS hA [0, 1] rfl
  refine va_calli (va_runSU (hZ.2.1.1 11 (RX9, TX9, 4) rfl).2 (As := [.int x, .ref bo]) (rest := []) ⟨hx, hb, hml, hown, hts⟩ (c_X3_doGoes_X9_1 l dC dI ad cB bS    bo aEl9_4 i0 sk sv scl x cEl9_5 fEl9_7 a0 1 mdc9_3 ([21]) H.size (by omega) (hL_9)) (va_cwSU 2 hts gX6_doGoes_X3_doGoes_s17 rfl rfl rfl (by decide +kernel) ⟨Nat.le_of_ble_eq_true rfl, Nat.le_of_ble_eq_true rfl⟩) ⟨fun a U g mk q => by obtain ⟨q0, q1, qP, qK, qD, qhI_, qhB_, qhW_, qhZ⟩ := q; exact ⟨q0, mvz g mk a q1, mvP g mk a qP, mvK g mk a qK, qD, qhI_.mv g mk a, qhB_.mv g mk a, qhW_.mv g mk a, qhZ.mv g mk a⟩, va_recv hZ.2.1 (hZ.P hS) (ci := 11) (q := (RX9, TX9, 4)) (q0 := 0) rfl rfl, fun U hU hW => ⟨rfl, by rw [hU], by rw [hU]; exact hPc, va_K.moved hW.alike hKc, hDc.weaken (fun _ _ _ _ => trivial), hI_.call hS hU hW (fun q h => hFc q h), hB_.call hS hU hW (fun q h => hFc q h), hW_.call hS hU hW (fun q h => hFc q h), (hZ.sub [0] [] rfl rfl).call hS hU hW (fun q h => hFc q h)⟩⟩ rfl rfl hl.1 rfl (lv_room (Nat.le_of_ble_eq_true rfl)) dX6_doGoes_9 ⟨Nat.le_of_ble_eq_true rfl, Nat.le_of_ble_eq_true rfl⟩) hS (fun q _ h => hFc q h) hFc (fun r_10 u tC H1 locs htC hvm hw_11 hB hz1 hk1 hS => ?_)
  obtain ⟨mdc9_12, sz_9_13, fEl9_14⟩ := u
  try dsimp only at hw_11 hB
  obtain ⟨hP1, hK1, hD1⟩ := hB
  rw [htC] at hP1
  have hK1 := va_K.moved hvm.symm hK1
  obtain ⟨hP, hD⟩ := va_join (wr := []) (w1 := [(zo1iri bo mdc9_12 aEl9_4 (nI sz_9_13)), (zaR aEl9_4 cEl9_5 10 fEl9_14)]) hP hD [0, 1] [] rfl rfl (by decide) (by decide) hk1 hFc hP1 hD1
  have hK := (hK.sub (tys' := []) [] rfl).app hK1
  generalize H1 = H at hP hS ⊢
  have hP : va_P (dC, dI) vwCl [(zo1iri bo mdc9_12 aEl9_4 (nI sz_9_13)), (zaR aEl9_4 cEl9_5 10 fEl9_14)] H := hP
  have hD : va_D A [(zo1iri bo mdc9_12 aEl9_4 (nI sz_9_13)), (zaR aEl9_4 cEl9_5 10 fEl9_14)] := hD
  have hK : va_K (dC, dI) vwCl [(cEl9_5, .object "java/lang/Object")] s := hK
  obtain ⟨er_15, e_16, hL_17⟩ := hw_11
  obtain rfl := (e_16).symm
  subst er_15
  refine lv_ineg hx hb dX6_doGoes_12 ?_
  rw [hQ]
  have hP9 := hP.sub (ws' := [(zo1iri bo mdc9_12 aEl9_4 (nI (1 + 3))), (zaR aEl9_4 cEl9_5 10 fEl9_14)]) [0, 1] rfl
  have hD9 := hD.sub (ws' := [(zo1iri bo mdc9_12 aEl9_4 (nI (1 + 3))), (zaR aEl9_4 cEl9_5 10 fEl9_14)]) [0, 1] (by decide) rfl
  have hK9 := hK.sub (tys' := [(cEl9_5, .object "java/lang/Object")]) [0] rfl
  refine W.widen (k := 1) (n := 10) (by omega) (by omega) ?_
  exact W.iret (v := -(((x + nI i0) ^^^ nI i0) - sv)) hx hb hr (fun tQ htQ hWQ => ⟨⟨(-(((x + nI i0) ^^^ nI i0) - sv)), (mdc9_12, aEl9_4, cEl9_5, (1 + 3), fEl9_14), rfl, ⟨rfl, by omega, hL_17⟩, by rw [htQ]; exact hP9, va_K.moved hWQ.alike hK9, hD9⟩, hS.F htQ⟩) hS.2.2 dX6_doGoes_13

theorem kc_X3_doLooks_X9_1_0 : (.code yX3_doGoes cX3_doGoes 3 (some .int) : Cond) ∈ wsX3_doLooks := kc_of 1049 rfl rfl rfl
set_option maxHeartbeats 4000000 in
set_option maxRecDepth 100000 in
theorem c_X3_doLooks_X9_1 (l : Launch) (dC : Nat → ClassId) (dI : Nat → Nat → Nat) (ad : Nat → Nat) (cB bS : Nat)    (bo : Nat) (aEl : Nat) (i0 : Nat) (sk : Int32) (sv : Int32) (scl : Int32) (x : Int32) (cEl : ClassId) (fEl : Nat → Option Nat) (a0 : Nat) (sz_ : Nat) (mdc : Int32) (tl : List Nat) (sz : Nat) (hsz : sz_ + 5 ≤ 10) (zL : okL ad fEl sz_ tl) : Met l yX3_doLooks wsX3_doLooks ({ frames := 7, cells := 0, slots := 0, locals := 153 } : Room) (va_Pc [.ref a0, .int x, .ref bo] (fun U => U.heap.size = sz ∧ va_P (dC, dI) vwCl [(zo1iri bo mdc aEl (nI sz_)), (zaR aEl cEl 10 fEl)] U.heap ∧ va_K (dC, dI) vwCl [(cEl, .object "java/lang/Object")] U ∧ va_D (fun _ => True) [(zo1iri bo mdc aEl (nI sz_)), (zaR aEl cEl 10 fEl)] ∧ Gi ad cB bS (va_A [(zo1iri bo mdc aEl (nI sz_)), (zaR aEl cEl 10 fEl)] sz) U ∧ Gb (va_A [(zo1iri bo mdc aEl (nI sz_)), (zaR aEl cEl 10 fEl)] sz) U ∧ Gw (va_A [(zo1iri bo mdc aEl (nI sz_)), (zaR aEl cEl 10 fEl)] sz) U ∧ Fz dC dI [(zo11iiii a0 sk (nI i0) sv scl)] [] (va_A [(zo1iri bo mdc aEl (nI sz_)), (zaR aEl cEl 10 fEl)] sz) U)) (va_Qi (fun (r : Int32) (u : (Int32) × (Nat) × (Nat → Option Nat)) => match u with | (mdc9, sz_9, fEl9) => r = (-(((x + nI i0) ^^^ nI i0) - sv)) * 2 ∧ sz_9 = sz_ + 5 ∧ okL ad fEl9 sz_9 (tl ++ [3, 21, 2, 51, 1])) (fun (u : (Int32) × (Nat) × (Nat → Option Nat)) (t : State) => match u with | (mdc9, sz_9, fEl9) => va_P (dC, dI) vwCl [(zo1iri bo mdc9 aEl (nI sz_9)), (zaR aEl cEl 10 fEl9)] t.heap ∧ va_K (dC, dI) vwCl [(cEl, .object "java/lang/Object")] t ∧ va_D (va_A [(zo1iri bo mdc aEl (nI sz_)), (zaR aEl cEl 10 fEl)] sz) [(zo1iri bo mdc9 aEl (nI sz_9)), (zaR aEl cEl 10 fEl9)]) (va_A [(zo1iri bo mdc aEl (nI sz_)), (zaR aEl cEl 10 fEl)] sz)) 0 0 (va_A [(zo1iri bo mdc aEl (nI sz_)), (zaR aEl cEl 10 fEl)] sz) := by
  refine met_ofQ (cc := cX3_doLooks) (maxL := 3) (ret := (some .int)) (by decide) rfl ?_
  intro p e s m args below meth c s₁ Q B hml hv hQ
  obtain ⟨rfl, hsz, hP, hK, hD0, hI_, hB_, hW_, hZ⟩ := hv
  have hx := B.exec
  have hb := B.bytes
  have hr := B.returns
  have hts := atoms_spec (ws := wsX3_doLooks) B.pre
  have hown : s.vm.findClass RX3 = some m.cls := findClass_of_methodNamed B.named
  have hlocks := B.notSynchronized
  subst hsz
  have hD := hD0.self (sz := s.heap.size)
  generalize hAe : va_A [(zo1iri bo mdc aEl (nI sz_)), (zaR aEl cEl 10 fEl)] s.heap.size = A at hD hQ hI_ hB_ hW_ hZ ⊢
  have hA : ∀ q : Nat, s.heap.size ≤ q → A q := fun q h => by rw [← hAe]; exact Or.inr h
  have hS : va_S A s.heap s.heap [] := va_S.rf
  have hl := lv_entry [.ref a0, .int x, .ref bo] (n := 3) (Nat.le_of_ble_eq_true rfl)
  rw [lg_entry_eq]
  generalize (lg_sl [.ref a0, .int x, .ref bo] ++ List.replicate (3 - (lg_sl [.ref a0, .int x, .ref bo]).length) Slot.unset).toArray = ls at hl ⊢
  generalize hag : ([.ref a0, .int x, .ref bo] : List Value).toArray = args at hts hQ ⊢
  have hl : lv_has ls 3 [(0, .ref a0), (1, .int x), (2, .ref bo)] := hl
  obtain ⟨H, hH⟩ : ∃ H : Heap, H = s.heap := ⟨_, rfl⟩
  rw [← hH] at hP
  rw [← hH]
  have hS : va_S A s.heap H [] := by rw [hH]; exact hS
  obtain ⟨locs, hlo⟩ : ∃ L : List Loc, L = [] := ⟨_, rfl⟩
  rw [← hlo] at hS
  rw [← hlo]
  clear hH hlo
  refine lv_iconst (v := 3) hx hb dX3_doLooks_0 (by decide) ?_
  refine lv_aload_n hx hb dX3_doLooks_1 rfl (lv_at hl 2 rfl) ?_
  have hPc := hP.sub (ws' := [(zo1iri bo mdc aEl (nI sz_)), (zaR aEl cEl 10 fEl)]) [0, 1] rfl
  have hDc := hD.sub (ws' := [(zo1iri bo mdc aEl (nI sz_)), (zaR aEl cEl 10 fEl)]) [0, 1] (by decide) rfl
  have hKc := hK.sub (tys' := [(cEl, .object "java/lang/Object")]) [0] rfl
  have hFc := va_free (wc := [(zo1iri bo mdc aEl (nI sz_)), (zaR aEl cEl 10 fEl)]) hD hS hA [0, 1] rfl
  refine va_callv (va_runS (As := [.int 3, .ref bo]) (rest := []) ⟨hx, hb, hml, hown, hts⟩ (c_begin1 l dC dI ad cB bS bo aEl 3 cEl fEl sz_ mdc tl H.size (by omega) (by omega) (zL)) (va_cwS 2 hts gX3_doLooks_X3_begin rfl rfl rfl hd_yX3_begin.2 ⟨Nat.le_of_ble_eq_true rfl, Nat.le_of_ble_eq_true rfl⟩) ⟨fun a U g mk q => by obtain ⟨q0, q1, qP, qK, qD, qhI_⟩ := q; exact ⟨q0, mvz g mk a q1, mvP g mk a qP, mvK g mk a qK, qD, qhI_.mv g mk a⟩, fun U hU hW => ⟨rfl, by rw [hU], by rw [hU]; exact hPc, va_K.moved hW.alike hKc, hDc.weaken (fun _ _ _ _ => trivial), hI_.call hS hU hW (fun q h => hFc q h)⟩⟩ rfl rfl hl.1 rfl (lv_room (Nat.le_of_ble_eq_true rfl)) dX3_doLooks_2 ⟨Nat.le_of_ble_eq_true rfl, Nat.le_of_ble_eq_true rfl⟩) hS (fun q _ h => hFc q h) hFc (fun u tC H1 locs htC hvm hw_2 hB hz1 hk1 hS => ?_)
  obtain ⟨mdc9_3, sz_9_4, fEl9_5⟩ := u
  try dsimp only at hw_2 hB
  obtain ⟨hP1, hK1, hD1⟩ := hB
  rw [htC] at hP1
  have hK1 := va_K.moved hvm.symm hK1
  obtain ⟨hP, hD⟩ := va_join (wr := []) (w1 := [(zo1iri bo mdc9_3 aEl (nI sz_9_4)), (zaR aEl cEl 10 fEl9_5)]) hP hD [0, 1] [] rfl rfl (by decide) (by decide) hk1 hFc hP1 hD1
  have hK := (hK.sub (tys' := []) [] rfl).app hK1
  generalize H1 = H at hP hS ⊢
  have hP : va_P (dC, dI) vwCl [(zo1iri bo mdc9_3 aEl (nI sz_9_4)), (zaR aEl cEl 10 fEl9_5)] H := hP
  have hD : va_D A [(zo1iri bo mdc9_3 aEl (nI sz_9_4)), (zaR aEl cEl 10 fEl9_5)] := hD
  have hK : va_K (dC, dI) vwCl [(cEl, .object "java/lang/Object")] s := hK
  obtain ⟨e_6, hL_7⟩ := hw_2
  obtain rfl := (e_6).symm
  refine lv_aload_n hx hb dX3_doLooks_5 rfl (lv_at hl 0 rfl) ?_
  refine lv_iload_n hx hb dX3_doLooks_6 rfl (lv_at hl 1 rfl) ?_
  refine lv_aload_n hx hb dX3_doLooks_7 rfl (lv_at hl 2 rfl) ?_
  have hPc := hP.sub (ws' := [(zo1iri bo mdc9_3 aEl (nI (sz_ + 1))), (zaR aEl cEl 10 fEl9_5)]) [0, 1] rfl
  have hDc := hD.sub (ws' := [(zo1iri bo mdc9_3 aEl (nI (sz_ + 1))), (zaR aEl cEl 10 fEl9_5)]) [0, 1] (by decide) rfl
  have hKc := hK.sub (tys' := [(cEl, .object "java/lang/Object")]) [0] rfl
  have hFc := va_free (wc := [(zo1iri bo mdc9_3 aEl (nI (sz_ + 1))), (zaR aEl cEl 10 fEl9_5)]) hD hS hA [0, 1] rfl
  refine va_calli (va_runU (As := [.int x, .ref bo]) (rest := []) ⟨hx, hb, hml, hown, hts⟩ (c_X6_doGoes_X9_1 l dC dI ad cB bS    bo aEl i0 sk sv scl x cEl fEl9_5 a0 (sz_ + 1) mdc9_3 (tl ++ [3]) H.size (by omega) (hL_7)) (va_cwO 2 hts gX3_doLooks_X6_doGoes_u42X9 rfl rfl rfl kc_X3_doLooks_X9_1_0 (by decide +kernel) ⟨Nat.le_of_ble_eq_true rfl, Nat.le_of_ble_eq_true rfl⟩) ⟨fun a U g mk q => by obtain ⟨q0, q1, qP, qK, qD, qhI_, qhB_, qhW_, qhZ⟩ := q; exact ⟨q0, mvz g mk a q1, mvP g mk a qP, mvK g mk a qK, qD, qhI_.mv g mk a, qhB_.mv g mk a, qhW_.mv g mk a, qhZ.mv g mk a⟩, va_recv hZ.2.1 (hZ.P hS) (ci := 11) (q := (RX9, TX9, 4)) (q0 := 0) rfl rfl, fun U hU hW => ⟨rfl, by rw [hU], by rw [hU]; exact hPc, va_K.moved hW.alike hKc, hDc.weaken (fun _ _ _ _ => trivial), hI_.call hS hU hW (fun q h => hFc q h), hB_.call hS hU hW (fun q h => hFc q h), hW_.call hS hU hW (fun q h => hFc q h), (hZ.sub [0] [] rfl rfl).call hS hU hW (fun q h => hFc q h)⟩⟩ rfl rfl hl.1 rfl (lv_room (Nat.le_of_ble_eq_true rfl)) dX3_doLooks_8 ⟨Nat.le_of_ble_eq_true rfl, Nat.le_of_ble_eq_true rfl⟩) hS (fun q _ h => hFc q h) hFc (fun r_8 u tC H1 locs htC hvm hw_9 hB hz1 hk1 hS => ?_)
  obtain ⟨mdc9_10, sz_9_11, fEl9_12⟩ := u
  try dsimp only at hw_9 hB
  obtain ⟨hP1, hK1, hD1⟩ := hB
  rw [htC] at hP1
  have hK1 := va_K.moved hvm.symm hK1
  obtain ⟨hP, hD⟩ := va_join (wr := []) (w1 := [(zo1iri bo mdc9_10 aEl (nI sz_9_11)), (zaR aEl cEl 10 fEl9_12)]) hP hD [0, 1] [] rfl rfl (by decide) (by decide) hk1 hFc hP1 hD1
  have hK := (hK.sub (tys' := []) [] rfl).app hK1
  generalize H1 = H at hP hS ⊢
  have hP : va_P (dC, dI) vwCl [(zo1iri bo mdc9_10 aEl (nI sz_9_11)), (zaR aEl cEl 10 fEl9_12)] H := hP
  have hD : va_D A [(zo1iri bo mdc9_10 aEl (nI sz_9_11)), (zaR aEl cEl 10 fEl9_12)] := hD
  have hK : va_K (dC, dI) vwCl [(cEl, .object "java/lang/Object")] s := hK
  obtain ⟨er_13, e_14, hL_15⟩ := hw_9
  obtain rfl := (e_14).symm
  subst er_13
  refine lv_iconst (v := 2) hx hb dX3_doLooks_11 (by decide) ?_
  refine lv_imul hx hb dX3_doLooks_12 ?_
  rw [hQ]
  have hP9 := hP.sub (ws' := [(zo1iri bo mdc9_10 aEl (nI ((sz_ + 1) + 4))), (zaR aEl cEl 10 fEl9_12)]) [0, 1] rfl
  have hD9 := hD.sub (ws' := [(zo1iri bo mdc9_10 aEl (nI ((sz_ + 1) + 4))), (zaR aEl cEl 10 fEl9_12)]) [0, 1] (by decide) rfl
  have hK9 := hK.sub (tys' := [(cEl, .object "java/lang/Object")]) [0] rfl
  exact W.iret (v := (-(((x + nI i0) ^^^ nI i0) - sv)) * 2) hx hb hr (fun tQ htQ hWQ => ⟨⟨((-(((x + nI i0) ^^^ nI i0) - sv)) * 2), (mdc9_10, ((sz_ + 1) + 4), fEl9_12), rfl, ⟨rfl, by omega, by have h9 := okL_as (hL_15); exact h9⟩, by rw [htQ]; exact hP9, va_K.moved hWQ.alike hK9, hD9⟩, hS.F htQ⟩) hS.2.2 dX3_doLooks_13

theorem kc_X3_doLooks_X9_0_0 : (.code yX3_doGoes cX3_doGoes 3 (some .int) : Cond) ∈ wsX3_doLooks := kc_of 1049 rfl rfl rfl
set_option maxHeartbeats 4000000 in
set_option maxRecDepth 100000 in
theorem c_X3_doLooks_X9_0 (l : Launch) (dC : Nat → ClassId) (dI : Nat → Nat → Nat) (ad : Nat → Nat) (cB bS : Nat)    (bo : Nat) (i0 : Nat) (sk : Int32) (sv : Int32) (scl : Int32) (x : Int32) (a0 : Nat) (mdc : Int32) (sz : Nat) : Met l yX3_doLooks wsX3_doLooks ({ frames := 7, cells := 1, slots := 10, locals := 153 } : Room) (va_Pc [.ref a0, .int x, .ref bo] (fun U => U.heap.size = sz ∧ va_P (dC, dI) vwCl [(zo1iri bo mdc bS 0)] U.heap ∧ va_K (dC, dI) vwCl [] U ∧ va_D (fun _ => True) [(zo1iri bo mdc bS 0)] ∧ Gi ad cB bS (va_A [(zo1iri bo mdc bS 0)] sz) U ∧ Gb (va_A [(zo1iri bo mdc bS 0)] sz) U ∧ Gw (va_A [(zo1iri bo mdc bS 0)] sz) U ∧ Fz dC dI [(zo11iiii a0 sk (nI i0) sv scl)] [] (va_A [(zo1iri bo mdc bS 0)] sz) U)) (va_Qi (fun (r : Int32) (u : (Int32) × (Nat) × (ClassId) × (Nat) × (Nat → Option Nat)) => match u with | (mdc9, aEl9, cEl9, sz_9, fEl9) => r = (-(((x + nI i0) ^^^ nI i0) - sv)) * 2 ∧ sz_9 = 5 ∧ okL ad fEl9 sz_9 [3, 21, 2, 51, 1]) (fun (u : (Int32) × (Nat) × (ClassId) × (Nat) × (Nat → Option Nat)) (t : State) => match u with | (mdc9, aEl9, cEl9, sz_9, fEl9) => va_P (dC, dI) vwCl [(zo1iri bo mdc9 aEl9 (nI sz_9)), (zaR aEl9 cEl9 10 fEl9)] t.heap ∧ va_K (dC, dI) vwCl [(cEl9, .object "java/lang/Object")] t ∧ va_D (va_A [(zo1iri bo mdc bS 0)] sz) [(zo1iri bo mdc9 aEl9 (nI sz_9)), (zaR aEl9 cEl9 10 fEl9)]) (va_A [(zo1iri bo mdc bS 0)] sz)) 1 10 (va_A [(zo1iri bo mdc bS 0)] sz) := by
  refine met_ofQ (cc := cX3_doLooks) (maxL := 3) (ret := (some .int)) (by decide) rfl ?_
  intro p e s m args below meth c s₁ Q B hml hv hQ
  obtain ⟨rfl, hsz, hP, hK, hD0, hI_, hB_, hW_, hZ⟩ := hv
  have hx := B.exec
  have hb := B.bytes
  have hr := B.returns
  have hts := atoms_spec (ws := wsX3_doLooks) B.pre
  have hown : s.vm.findClass RX3 = some m.cls := findClass_of_methodNamed B.named
  have hlocks := B.notSynchronized
  subst hsz
  have hD := hD0.self (sz := s.heap.size)
  generalize hAe : va_A [(zo1iri bo mdc bS 0)] s.heap.size = A at hD hQ hI_ hB_ hW_ hZ ⊢
  have hA : ∀ q : Nat, s.heap.size ≤ q → A q := fun q h => by rw [← hAe]; exact Or.inr h
  have hS : va_S A s.heap s.heap [] := va_S.rf
  have hl := lv_entry [.ref a0, .int x, .ref bo] (n := 3) (Nat.le_of_ble_eq_true rfl)
  rw [lg_entry_eq]
  generalize (lg_sl [.ref a0, .int x, .ref bo] ++ List.replicate (3 - (lg_sl [.ref a0, .int x, .ref bo]).length) Slot.unset).toArray = ls at hl ⊢
  generalize hag : ([.ref a0, .int x, .ref bo] : List Value).toArray = args at hts hQ ⊢
  have hl : lv_has ls 3 [(0, .ref a0), (1, .int x), (2, .ref bo)] := hl
  obtain ⟨H, hH⟩ : ∃ H : Heap, H = s.heap := ⟨_, rfl⟩
  rw [← hH] at hP
  rw [← hH]
  have hS : va_S A s.heap H [] := by rw [hH]; exact hS
  obtain ⟨locs, hlo⟩ : ∃ L : List Loc, L = [] := ⟨_, rfl⟩
  rw [← hlo] at hS
  rw [← hlo]
  clear hH hlo
  refine lv_iconst (v := 3) hx hb dX3_doLooks_0 (by decide) ?_
  refine lv_aload_n hx hb dX3_doLooks_1 rfl (lv_at hl 2 rfl) ?_
  have hPc := hP.sub (ws' := [(zo1iri bo mdc bS 0)]) [0] rfl
  have hDc := hD.sub (ws' := [(zo1iri bo mdc bS 0)]) [0] (by decide) rfl
  have hKc := hK.sub (tys' := []) [] rfl
  have hFc := va_free (wc := [(zo1iri bo mdc bS 0)]) hD hS hA [0] rfl
  refine va_callv (va_runS (As := [.int 3, .ref bo]) (rest := []) ⟨hx, hb, hml, hown, hts⟩ (c_begin0 l dC dI ad cB bS bo mdc 3 H.size (by omega)) (va_cwS 2 hts gX3_doLooks_X3_begin rfl rfl rfl hd_yX3_begin.2 ⟨Nat.le_of_ble_eq_true rfl, Nat.le_of_ble_eq_true rfl⟩) ⟨fun a U g mk q => by obtain ⟨q0, q1, qP, qK, qD, qhI_⟩ := q; exact ⟨q0, mvz g mk a q1, mvP g mk a qP, mvK g mk a qK, qD, qhI_.mv g mk a⟩, fun U hU hW => ⟨rfl, by rw [hU], by rw [hU]; exact hPc, va_K.moved hW.alike hKc, hDc.weaken (fun _ _ _ _ => trivial), hI_.call hS hU hW (fun q h => hFc q h)⟩⟩ rfl rfl hl.1 rfl (lv_room (Nat.le_of_ble_eq_true rfl)) dX3_doLooks_2 ⟨Nat.le_of_ble_eq_true rfl, Nat.le_of_ble_eq_true rfl⟩) hS (fun q _ h => hFc q h) hFc (fun u tC H1 locs htC hvm hw_2 hB hz1 hk1 hS => ?_)
  obtain ⟨mdc9_3, aEl9_4, cEl9_5, sz_9_6, fEl9_7⟩ := u
  try dsimp only at hw_2 hB
  obtain ⟨hP1, hK1, hD1⟩ := hB
  rw [htC] at hP1
  have hK1 := va_K.moved hvm.symm hK1
  obtain ⟨hP, hD⟩ := va_join (wr := []) (w1 := [(zo1iri bo mdc9_3 aEl9_4 (nI sz_9_6)), (zaR aEl9_4 cEl9_5 10 fEl9_7)]) hP hD [0] [] rfl rfl (by decide) (by decide) hk1 hFc hP1 hD1
  have hK := (hK.sub (tys' := []) [] rfl).app hK1
  generalize H1 = H at hP hS ⊢
  have hP : va_P (dC, dI) vwCl [(zo1iri bo mdc9_3 aEl9_4 (nI sz_9_6)), (zaR aEl9_4 cEl9_5 10 fEl9_7)] H := hP
  have hD : va_D A [(zo1iri bo mdc9_3 aEl9_4 (nI sz_9_6)), (zaR aEl9_4 cEl9_5 10 fEl9_7)] := hD
  have hK : va_K (dC, dI) vwCl [(cEl9_5, .object "java/lang/Object")] s := hK
  refine W.widen (k := 1) (n := 10) (by omega) (by omega) ?_
  obtain ⟨e_8, hL_9⟩ := hw_2
  obtain rfl := (e_8).symm
  refine lv_aload_n hx hb dX3_doLooks_5 rfl (lv_at hl 0 rfl) ?_
  refine lv_iload_n hx hb dX3_doLooks_6 rfl (lv_at hl 1 rfl) ?_
  refine lv_aload_n hx hb dX3_doLooks_7 rfl (lv_at hl 2 rfl) ?_
  have hPc := hP.sub (ws' := [(zo1iri bo mdc9_3 aEl9_4 (nI 1)), (zaR aEl9_4 cEl9_5 10 fEl9_7)]) [0, 1] rfl
  have hDc := hD.sub (ws' := [(zo1iri bo mdc9_3 aEl9_4 (nI 1)), (zaR aEl9_4 cEl9_5 10 fEl9_7)]) [0, 1] (by decide) rfl
  have hKc := hK.sub (tys' := [(cEl9_5, .object "java/lang/Object")]) [0] rfl
  have hFc := va_free (wc := [(zo1iri bo mdc9_3 aEl9_4 (nI 1)), (zaR aEl9_4 cEl9_5 10 fEl9_7)]) hD hS hA [0, 1] rfl
  refine va_calli (va_runU (As := [.int x, .ref bo]) (rest := []) ⟨hx, hb, hml, hown, hts⟩ (c_X6_doGoes_X9_1 l dC dI ad cB bS    bo aEl9_4 i0 sk sv scl x cEl9_5 fEl9_7 a0 1 mdc9_3 ([3]) H.size (by omega) (hL_9)) (va_cwO 2 hts gX3_doLooks_X6_doGoes_u42X9 rfl rfl rfl kc_X3_doLooks_X9_0_0 (by decide +kernel) ⟨Nat.le_of_ble_eq_true rfl, Nat.le_of_ble_eq_true rfl⟩) ⟨fun a U g mk q => by obtain ⟨q0, q1, qP, qK, qD, qhI_, qhB_, qhW_, qhZ⟩ := q; exact ⟨q0, mvz g mk a q1, mvP g mk a qP, mvK g mk a qK, qD, qhI_.mv g mk a, qhB_.mv g mk a, qhW_.mv g mk a, qhZ.mv g mk a⟩, va_recv hZ.2.1 (hZ.P hS) (ci := 11) (q := (RX9, TX9, 4)) (q0 := 0) rfl rfl, fun U hU hW => ⟨rfl, by rw [hU], by rw [hU]; exact hPc, va_K.moved hW.alike hKc, hDc.weaken (fun _ _ _ _ => trivial), hI_.call hS hU hW (fun q h => hFc q h), hB_.call hS hU hW (fun q h => hFc q h), hW_.call hS hU hW (fun q h => hFc q h), (hZ.sub [0] [] rfl rfl).call hS hU hW (fun q h => hFc q h)⟩⟩ rfl rfl hl.1 rfl (lv_room (Nat.le_of_ble_eq_true rfl)) dX3_doLooks_8 ⟨Nat.le_of_ble_eq_true rfl, Nat.le_of_ble_eq_true rfl⟩) hS (fun q _ h => hFc q h) hFc (fun r_10 u tC H1 locs htC hvm hw_11 hB hz1 hk1 hS => ?_)
  obtain ⟨mdc9_12, sz_9_13, fEl9_14⟩ := u
  try dsimp only at hw_11 hB
  obtain ⟨hP1, hK1, hD1⟩ := hB
  rw [htC] at hP1
  have hK1 := va_K.moved hvm.symm hK1
  obtain ⟨hP, hD⟩ := va_join (wr := []) (w1 := [(zo1iri bo mdc9_12 aEl9_4 (nI sz_9_13)), (zaR aEl9_4 cEl9_5 10 fEl9_14)]) hP hD [0, 1] [] rfl rfl (by decide) (by decide) hk1 hFc hP1 hD1
  have hK := (hK.sub (tys' := []) [] rfl).app hK1
  generalize H1 = H at hP hS ⊢
  have hP : va_P (dC, dI) vwCl [(zo1iri bo mdc9_12 aEl9_4 (nI sz_9_13)), (zaR aEl9_4 cEl9_5 10 fEl9_14)] H := hP
  have hD : va_D A [(zo1iri bo mdc9_12 aEl9_4 (nI sz_9_13)), (zaR aEl9_4 cEl9_5 10 fEl9_14)] := hD
  have hK : va_K (dC, dI) vwCl [(cEl9_5, .object "java/lang/Object")] s := hK
  obtain ⟨er_15, e_16, hL_17⟩ := hw_11
  obtain rfl := (e_16).symm
  subst er_15
  refine lv_iconst (v := 2) hx hb dX3_doLooks_11 (by decide) ?_
  refine lv_imul hx hb dX3_doLooks_12 ?_
  rw [hQ]
  have hP9 := hP.sub (ws' := [(zo1iri bo mdc9_12 aEl9_4 (nI (1 + 4))), (zaR aEl9_4 cEl9_5 10 fEl9_14)]) [0, 1] rfl
  have hD9 := hD.sub (ws' := [(zo1iri bo mdc9_12 aEl9_4 (nI (1 + 4))), (zaR aEl9_4 cEl9_5 10 fEl9_14)]) [0, 1] (by decide) rfl
  have hK9 := hK.sub (tys' := [(cEl9_5, .object "java/lang/Object")]) [0] rfl
  refine W.widen (k := 1) (n := 10) (by omega) (by omega) ?_
  exact W.iret (v := (-(((x + nI i0) ^^^ nI i0) - sv)) * 2) hx hb hr (fun tQ htQ hWQ => ⟨⟨((-(((x + nI i0) ^^^ nI i0) - sv)) * 2), (mdc9_12, aEl9_4, cEl9_5, (1 + 4), fEl9_14), rfl, ⟨rfl, by omega, hL_17⟩, by rw [htQ]; exact hP9, va_K.moved hWQ.alike hK9, hD9⟩, hS.F htQ⟩) hS.2.2 dX3_doLooks_13

theorem kc_X3_doSees_X7_1_0 : (.fieldLink RX3 15 "MistHeaps$Heap" "number" "I" : Cond) ∈ wsX3_doSees := kc_of 231 rfl rfl rfl
theorem kc_X3_doSees_X7_1_1 : ∀ w ∈ wsX70, w ∈ wsX3_doSees := fun w h => List.mem_cons_of_mem _ (gin_wsX70 w h)
set_option maxHeartbeats 4000000 in
set_option maxRecDepth 100000 in
theorem c_X3_doSees_X7_1 (l : Launch) (dC : Nat → ClassId) (dI : Nat → Nat → Nat) (ad : Nat → Nat) (cB bS : Nat)    (bo : Nat) (aEl : Nat) (i0 : Nat) (sk : Int32) (sv : Int32) (scl : Int32) (x : Int32) (cEl : ClassId) (fEl : Nat → Option Nat) (a0 : Nat) (sz_ : Nat) (mdc : Int32) (tl : List Nat) (sz : Nat) (hsz : sz_ + 1 ≤ 10) (zL : okL ad fEl sz_ tl) : Met l yX3_doSees wsX3_doSees ({ frames := 3, cells := 0, slots := 0, locals := 65 } : Room) (va_Pc [.ref a0, .int x, .ref bo] (fun U => U.heap.size = sz ∧ va_P (dC, dI) vwCl [(zo1iri bo mdc aEl (nI sz_)), (zaR aEl cEl 10 fEl)] U.heap ∧ va_K (dC, dI) vwCl [(cEl, .object "java/lang/Object")] U ∧ va_D (fun _ => True) [(zo1iri bo mdc aEl (nI sz_)), (zaR aEl cEl 10 fEl)] ∧ Gi ad cB bS (va_A [(zo1iri bo mdc aEl (nI sz_)), (zaR aEl cEl 10 fEl)] sz) U ∧ Gb (va_A [(zo1iri bo mdc aEl (nI sz_)), (zaR aEl cEl 10 fEl)] sz) U ∧ Gw (va_A [(zo1iri bo mdc aEl (nI sz_)), (zaR aEl cEl 10 fEl)] sz) U ∧ Fz dC dI [(zo9iiii a0 sk (nI i0) sv scl)] [] (va_A [(zo1iri bo mdc aEl (nI sz_)), (zaR aEl cEl 10 fEl)] sz) U)) (va_Qi (fun (r : Int32) (u : (Int32) × (Nat) × (Nat → Option Nat)) => match u with | (mdc9, sz_9, fEl9) => r = x + nI i0 ∧ sz_9 = sz_ + 1 ∧ okL ad fEl9 sz_9 (tl ++ [1])) (fun (u : (Int32) × (Nat) × (Nat → Option Nat)) (t : State) => match u with | (mdc9, sz_9, fEl9) => va_P (dC, dI) vwCl [(zo1iri bo mdc9 aEl (nI sz_9)), (zaR aEl cEl 10 fEl9)] t.heap ∧ va_K (dC, dI) vwCl [(cEl, .object "java/lang/Object")] t ∧ va_D (va_A [(zo1iri bo mdc aEl (nI sz_)), (zaR aEl cEl 10 fEl)] sz) [(zo1iri bo mdc9 aEl (nI sz_9)), (zaR aEl cEl 10 fEl9)]) (va_A [(zo1iri bo mdc aEl (nI sz_)), (zaR aEl cEl 10 fEl)] sz)) 0 0 (va_A [(zo1iri bo mdc aEl (nI sz_)), (zaR aEl cEl 10 fEl)] sz) := by
  refine met_ofQ (cc := cX3_doSees) (maxL := 3) (ret := (some .int)) (by decide) rfl ?_
  intro p e s m args below meth c s₁ Q B hml hv hQ
  obtain ⟨rfl, hsz, hP, hK, hD0, hI_, hB_, hW_, hZ⟩ := hv
  have hx := B.exec
  have hb := B.bytes
  have hr := B.returns
  have hts := atoms_spec (ws := wsX3_doSees) B.pre
  have hown : s.vm.findClass RX3 = some m.cls := findClass_of_methodNamed B.named
  have hlocks := B.notSynchronized
  subst hsz
  have hD := hD0.self (sz := s.heap.size)
  generalize hAe : va_A [(zo1iri bo mdc aEl (nI sz_)), (zaR aEl cEl 10 fEl)] s.heap.size = A at hD hQ hI_ hB_ hW_ hZ ⊢
  have hA : ∀ q : Nat, s.heap.size ≤ q → A q := fun q h => by rw [← hAe]; exact Or.inr h
  have hS : va_S A s.heap s.heap [] := va_S.rf
  have hl := lv_entry [.ref a0, .int x, .ref bo] (n := 3) (Nat.le_of_ble_eq_true rfl)
  rw [lg_entry_eq]
  generalize (lg_sl [.ref a0, .int x, .ref bo] ++ List.replicate (3 - (lg_sl [.ref a0, .int x, .ref bo]).length) Slot.unset).toArray = ls at hl ⊢
  generalize hag : ([.ref a0, .int x, .ref bo] : List Value).toArray = args at hts hQ ⊢
  have hl : lv_has ls 3 [(0, .ref a0), (1, .int x), (2, .ref bo)] := hl
  obtain ⟨H, hH⟩ : ∃ H : Heap, H = s.heap := ⟨_, rfl⟩
  rw [← hH] at hP
  rw [← hH]
  have hS : va_S A s.heap H [] := by rw [hH]; exact hS
  obtain ⟨locs, hlo⟩ : ∃ L : List Loc, L = [] := ⟨_, rfl⟩
  rw [← hlo] at hS
  rw [← hlo]
  clear hH hlo
  refine lv_iconst (v := 1) hx hb dX3_doSees_0 (by decide) ?_
  refine lv_aload_n hx hb dX3_doSees_1 rfl (lv_at hl 2 rfl) ?_
  have hPc := hP.sub (ws' := [(zo1iri bo mdc aEl (nI sz_)), (zaR aEl cEl 10 fEl)]) [0, 1] rfl
  have hDc := hD.sub (ws' := [(zo1iri bo mdc aEl (nI sz_)), (zaR aEl cEl 10 fEl)]) [0, 1] (by decide) rfl
  have hKc := hK.sub (tys' := [(cEl, .object "java/lang/Object")]) [0] rfl
  have hFc := va_free (wc := [(zo1iri bo mdc aEl (nI sz_)), (zaR aEl cEl 10 fEl)]) hD hS hA [0, 1] rfl
  refine va_callv (va_runS (As := [.int 1, .ref bo]) (rest := []) ⟨hx, hb, hml, hown, hts⟩ (c_begin1 l dC dI ad cB bS bo aEl 1 cEl fEl sz_ mdc tl H.size (by omega) (by omega) (zL)) (va_cwS 2 hts gX3_doSees_X3_begin rfl rfl rfl hd_yX3_begin.2 ⟨Nat.le_of_ble_eq_true rfl, Nat.le_of_ble_eq_true rfl⟩) ⟨fun a U g mk q => by obtain ⟨q0, q1, qP, qK, qD, qhI_⟩ := q; exact ⟨q0, mvz g mk a q1, mvP g mk a qP, mvK g mk a qK, qD, qhI_.mv g mk a⟩, fun U hU hW => ⟨rfl, by rw [hU], by rw [hU]; exact hPc, va_K.moved hW.alike hKc, hDc.weaken (fun _ _ _ _ => trivial), hI_.call hS hU hW (fun q h => hFc q h)⟩⟩ rfl rfl hl.1 rfl (lv_room (Nat.le_of_ble_eq_true rfl)) dX3_doSees_2 ⟨Nat.le_of_ble_eq_true rfl, Nat.le_of_ble_eq_true rfl⟩) hS (fun q _ h => hFc q h) hFc (fun u tC H1 locs htC hvm hw_2 hB hz1 hk1 hS => ?_)
  obtain ⟨mdc9_3, sz_9_4, fEl9_5⟩ := u
  try dsimp only at hw_2 hB
  obtain ⟨hP1, hK1, hD1⟩ := hB
  rw [htC] at hP1
  have hK1 := va_K.moved hvm.symm hK1
  obtain ⟨hP, hD⟩ := va_join (wr := []) (w1 := [(zo1iri bo mdc9_3 aEl (nI sz_9_4)), (zaR aEl cEl 10 fEl9_5)]) hP hD [0, 1] [] rfl rfl (by decide) (by decide) hk1 hFc hP1 hD1
  have hK := (hK.sub (tys' := []) [] rfl).app hK1
  generalize H1 = H at hP hS ⊢
  have hP : va_P (dC, dI) vwCl [(zo1iri bo mdc9_3 aEl (nI sz_9_4)), (zaR aEl cEl 10 fEl9_5)] H := hP
  have hD : va_D A [(zo1iri bo mdc9_3 aEl (nI sz_9_4)), (zaR aEl cEl 10 fEl9_5)] := hD
  have hK : va_K (dC, dI) vwCl [(cEl, .object "java/lang/Object")] s := hK
  obtain ⟨e_6, hL_7⟩ := hw_2
  obtain rfl := (e_6).symm
  refine lv_iload_n hx hb dX3_doSees_5 rfl (lv_at hl 1 rfl) ?_
  refine lv_aload_n hx hb dX3_doSees_6 rfl (lv_at hl 0 rfl) ?_
  refine va_get (D := (dC, dI)) (ci := 9) (v := .int (nI i0)) (C := RX7) (T := TX7) (N := 4) hx hb hts kc_X3_doSees_X7_1_1 hown hZ.2.1 (hZ.P hS) 0 rfl rfl 1 (by decide) (hts (.fieldLink RX3 15 "MistHeaps$Heap" "number" "I") kc_X3_doSees_X7_1_0) (fun _ h9 => h9) rfl dX3_doSees_7 ?_
  refine lv_iadd hx hb dX3_doSees_10 ?_
  rw [hQ]
  have hP9 := hP.sub (ws' := [(zo1iri bo mdc9_3 aEl (nI (sz_ + 1))), (zaR aEl cEl 10 fEl9_5)]) [0, 1] rfl
  have hD9 := hD.sub (ws' := [(zo1iri bo mdc9_3 aEl (nI (sz_ + 1))), (zaR aEl cEl 10 fEl9_5)]) [0, 1] (by decide) rfl
  have hK9 := hK.sub (tys' := [(cEl, .object "java/lang/Object")]) [0] rfl
  exact W.iret (v := x + (nI i0)) hx hb hr (fun tQ htQ hWQ => ⟨⟨(x + (nI i0)), (mdc9_3, (sz_ + 1), fEl9_5), rfl, ⟨rfl, by omega, by have h9 := hL_7; exact h9⟩, by rw [htQ]; exact hP9, va_K.moved hWQ.alike hK9, hD9⟩, hS.F htQ⟩) hS.2.2 dX3_doSees_11

theorem kc_X3_doSees_X7_0_0 : (.fieldLink RX3 15 "MistHeaps$Heap" "number" "I" : Cond) ∈ wsX3_doSees := kc_of 231 rfl rfl rfl
theorem kc_X3_doSees_X7_0_1 : ∀ w ∈ wsX70, w ∈ wsX3_doSees := fun w h => List.mem_cons_of_mem _ (gin_wsX70 w h)
set_option maxHeartbeats 4000000 in
set_option maxRecDepth 100000 in
theorem c_X3_doSees_X7_0 (l : Launch) (dC : Nat → ClassId) (dI : Nat → Nat → Nat) (ad : Nat → Nat) (cB bS : Nat)    (bo : Nat) (i0 : Nat) (sk : Int32) (sv : Int32) (scl : Int32) (x : Int32) (a0 : Nat) (mdc : Int32) (sz : Nat) : Met l yX3_doSees wsX3_doSees ({ frames := 6, cells := 1, slots := 10, locals := 122 } : Room) (va_Pc [.ref a0, .int x, .ref bo] (fun U => U.heap.size = sz ∧ va_P (dC, dI) vwCl [(zo1iri bo mdc bS 0)] U.heap ∧ va_K (dC, dI) vwCl [] U ∧ va_D (fun _ => True) [(zo1iri bo mdc bS 0)] ∧ Gi ad cB bS (va_A [(zo1iri bo mdc bS 0)] sz) U ∧ Gb (va_A [(zo1iri bo mdc bS 0)] sz) U ∧ Gw (va_A [(zo1iri bo mdc bS 0)] sz) U ∧ Fz dC dI [(zo9iiii a0 sk (nI i0) sv scl)] [] (va_A [(zo1iri bo mdc bS 0)] sz) U)) (va_Qi (fun (r : Int32) (u : (Int32) × (Nat) × (ClassId) × (Nat) × (Nat → Option Nat)) => match u with | (mdc9, aEl9, cEl9, sz_9, fEl9) => r = x + nI i0 ∧ sz_9 = 1 ∧ okL ad fEl9 sz_9 [1]) (fun (u : (Int32) × (Nat) × (ClassId) × (Nat) × (Nat → Option Nat)) (t : State) => match u with | (mdc9, aEl9, cEl9, sz_9, fEl9) => va_P (dC, dI) vwCl [(zo1iri bo mdc9 aEl9 (nI sz_9)), (zaR aEl9 cEl9 10 fEl9)] t.heap ∧ va_K (dC, dI) vwCl [(cEl9, .object "java/lang/Object")] t ∧ va_D (va_A [(zo1iri bo mdc bS 0)] sz) [(zo1iri bo mdc9 aEl9 (nI sz_9)), (zaR aEl9 cEl9 10 fEl9)]) (va_A [(zo1iri bo mdc bS 0)] sz)) 1 10 (va_A [(zo1iri bo mdc bS 0)] sz) := by
  refine met_ofQ (cc := cX3_doSees) (maxL := 3) (ret := (some .int)) (by decide) rfl ?_
  intro p e s m args below meth c s₁ Q B hml hv hQ
  obtain ⟨rfl, hsz, hP, hK, hD0, hI_, hB_, hW_, hZ⟩ := hv
  have hx := B.exec
  have hb := B.bytes
  have hr := B.returns
  have hts := atoms_spec (ws := wsX3_doSees) B.pre
  have hown : s.vm.findClass RX3 = some m.cls := findClass_of_methodNamed B.named
  have hlocks := B.notSynchronized
  subst hsz
  have hD := hD0.self (sz := s.heap.size)
  generalize hAe : va_A [(zo1iri bo mdc bS 0)] s.heap.size = A at hD hQ hI_ hB_ hW_ hZ ⊢
  have hA : ∀ q : Nat, s.heap.size ≤ q → A q := fun q h => by rw [← hAe]; exact Or.inr h
  have hS : va_S A s.heap s.heap [] := va_S.rf
  have hl := lv_entry [.ref a0, .int x, .ref bo] (n := 3) (Nat.le_of_ble_eq_true rfl)
  rw [lg_entry_eq]
  generalize (lg_sl [.ref a0, .int x, .ref bo] ++ List.replicate (3 - (lg_sl [.ref a0, .int x, .ref bo]).length) Slot.unset).toArray = ls at hl ⊢
  generalize hag : ([.ref a0, .int x, .ref bo] : List Value).toArray = args at hts hQ ⊢
  have hl : lv_has ls 3 [(0, .ref a0), (1, .int x), (2, .ref bo)] := hl
  obtain ⟨H, hH⟩ : ∃ H : Heap, H = s.heap := ⟨_, rfl⟩
  rw [← hH] at hP
  rw [← hH]
  have hS : va_S A s.heap H [] := by rw [hH]; exact hS
  obtain ⟨locs, hlo⟩ : ∃ L : List Loc, L = [] := ⟨_, rfl⟩
  rw [← hlo] at hS
  rw [← hlo]
  clear hH hlo
  refine lv_iconst (v := 1) hx hb dX3_doSees_0 (by decide) ?_
  refine lv_aload_n hx hb dX3_doSees_1 rfl (lv_at hl 2 rfl) ?_
  have hPc := hP.sub (ws' := [(zo1iri bo mdc bS 0)]) [0] rfl
  have hDc := hD.sub (ws' := [(zo1iri bo mdc bS 0)]) [0] (by decide) rfl
  have hKc := hK.sub (tys' := []) [] rfl
  have hFc := va_free (wc := [(zo1iri bo mdc bS 0)]) hD hS hA [0] rfl
  refine va_callv (va_runS (As := [.int 1, .ref bo]) (rest := []) ⟨hx, hb, hml, hown, hts⟩ (c_begin0 l dC dI ad cB bS bo mdc 1 H.size (by omega)) (va_cwS 2 hts gX3_doSees_X3_begin rfl rfl rfl hd_yX3_begin.2 ⟨Nat.le_of_ble_eq_true rfl, Nat.le_of_ble_eq_true rfl⟩) ⟨fun a U g mk q => by obtain ⟨q0, q1, qP, qK, qD, qhI_⟩ := q; exact ⟨q0, mvz g mk a q1, mvP g mk a qP, mvK g mk a qK, qD, qhI_.mv g mk a⟩, fun U hU hW => ⟨rfl, by rw [hU], by rw [hU]; exact hPc, va_K.moved hW.alike hKc, hDc.weaken (fun _ _ _ _ => trivial), hI_.call hS hU hW (fun q h => hFc q h)⟩⟩ rfl rfl hl.1 rfl (lv_room (Nat.le_of_ble_eq_true rfl)) dX3_doSees_2 ⟨Nat.le_of_ble_eq_true rfl, Nat.le_of_ble_eq_true rfl⟩) hS (fun q _ h => hFc q h) hFc (fun u tC H1 locs htC hvm hw_2 hB hz1 hk1 hS => ?_)
  obtain ⟨mdc9_3, aEl9_4, cEl9_5, sz_9_6, fEl9_7⟩ := u
  try dsimp only at hw_2 hB
  obtain ⟨hP1, hK1, hD1⟩ := hB
  rw [htC] at hP1
  have hK1 := va_K.moved hvm.symm hK1
  obtain ⟨hP, hD⟩ := va_join (wr := []) (w1 := [(zo1iri bo mdc9_3 aEl9_4 (nI sz_9_6)), (zaR aEl9_4 cEl9_5 10 fEl9_7)]) hP hD [0] [] rfl rfl (by decide) (by decide) hk1 hFc hP1 hD1
  have hK := (hK.sub (tys' := []) [] rfl).app hK1
  generalize H1 = H at hP hS ⊢
  have hP : va_P (dC, dI) vwCl [(zo1iri bo mdc9_3 aEl9_4 (nI sz_9_6)), (zaR aEl9_4 cEl9_5 10 fEl9_7)] H := hP
  have hD : va_D A [(zo1iri bo mdc9_3 aEl9_4 (nI sz_9_6)), (zaR aEl9_4 cEl9_5 10 fEl9_7)] := hD
  have hK : va_K (dC, dI) vwCl [(cEl9_5, .object "java/lang/Object")] s := hK
  refine W.widen (k := 1) (n := 10) (by omega) (by omega) ?_
  obtain ⟨e_8, hL_9⟩ := hw_2
  obtain rfl := (e_8).symm
  refine lv_iload_n hx hb dX3_doSees_5 rfl (lv_at hl 1 rfl) ?_
  refine lv_aload_n hx hb dX3_doSees_6 rfl (lv_at hl 0 rfl) ?_
  refine va_get (D := (dC, dI)) (ci := 9) (v := .int (nI i0)) (C := RX7) (T := TX7) (N := 4) hx hb hts kc_X3_doSees_X7_0_1 hown hZ.2.1 (hZ.P hS) 0 rfl rfl 1 (by decide) (hts (.fieldLink RX3 15 "MistHeaps$Heap" "number" "I") kc_X3_doSees_X7_0_0) (fun _ h9 => h9) rfl dX3_doSees_7 ?_
  refine lv_iadd hx hb dX3_doSees_10 ?_
  rw [hQ]
  have hP9 := hP.sub (ws' := [(zo1iri bo mdc9_3 aEl9_4 (nI 1)), (zaR aEl9_4 cEl9_5 10 fEl9_7)]) [0, 1] rfl
  have hD9 := hD.sub (ws' := [(zo1iri bo mdc9_3 aEl9_4 (nI 1)), (zaR aEl9_4 cEl9_5 10 fEl9_7)]) [0, 1] (by decide) rfl
  have hK9 := hK.sub (tys' := [(cEl9_5, .object "java/lang/Object")]) [0] rfl
  refine W.widen (k := 1) (n := 10) (by omega) (by omega) ?_
  exact W.iret (v := x + (nI i0)) hx hb hr (fun tQ htQ hWQ => ⟨⟨(x + (nI i0)), (mdc9_3, aEl9_4, cEl9_5, 1, fEl9_7), rfl, ⟨rfl, by omega, hL_9⟩, by rw [htQ]; exact hP9, va_K.moved hWQ.alike hK9, hD9⟩, hS.F htQ⟩) hS.2.2 dX3_doSees_11

theorem kc_X3_doGoes_X7_1_0 : (.fieldLink RX3 18 "MistHeaps$Heap" "v" "I" : Cond) ∈ wsX3_doGoes := kc_of 236 rfl rfl rfl
theorem kc_X3_doGoes_X7_1_1 : ∀ w ∈ wsX70, w ∈ wsX3_doGoes := fun w h => List.mem_cons_of_mem _ (gin_wsX70 w h)
set_option maxHeartbeats 4000000 in
set_option maxRecDepth 100000 in
theorem c_X3_doGoes_X7_1 (l : Launch) (dC : Nat → ClassId) (dI : Nat → Nat → Nat) (ad : Nat → Nat) (cB bS : Nat)    (bo : Nat) (aEl : Nat) (i0 : Nat) (sk : Int32) (sv : Int32) (scl : Int32) (x : Int32) (cEl : ClassId) (fEl : Nat → Option Nat) (a0 : Nat) (sz_ : Nat) (mdc : Int32) (tl : List Nat) (sz : Nat) (hsz : sz_ + 2 ≤ 10) (zL : okL ad fEl sz_ tl) : Met l yX3_doGoes wsX3_doGoes ({ frames := 4, cells := 0, slots := 0, locals := 87 } : Room) (va_Pc [.ref a0, .int x, .ref bo] (fun U => U.heap.size = sz ∧ va_P (dC, dI) vwCl [(zo1iri bo mdc aEl (nI sz_)), (zaR aEl cEl 10 fEl)] U.heap ∧ va_K (dC, dI) vwCl [(cEl, .object "java/lang/Object")] U ∧ va_D (fun _ => True) [(zo1iri bo mdc aEl (nI sz_)), (zaR aEl cEl 10 fEl)] ∧ Gi ad cB bS (va_A [(zo1iri bo mdc aEl (nI sz_)), (zaR aEl cEl 10 fEl)] sz) U ∧ Gb (va_A [(zo1iri bo mdc aEl (nI sz_)), (zaR aEl cEl 10 fEl)] sz) U ∧ Gw (va_A [(zo1iri bo mdc aEl (nI sz_)), (zaR aEl cEl 10 fEl)] sz) U ∧ Fz dC dI [(zo9iiii a0 sk (nI i0) sv scl)] [] (va_A [(zo1iri bo mdc aEl (nI sz_)), (zaR aEl cEl 10 fEl)] sz) U)) (va_Qi (fun (r : Int32) (u : (Int32) × (Nat) × (Nat → Option Nat)) => match u with | (mdc9, sz_9, fEl9) => r = (x + nI i0) - sv ∧ sz_9 = sz_ + 2 ∧ okL ad fEl9 sz_9 (tl ++ [2, 1])) (fun (u : (Int32) × (Nat) × (Nat → Option Nat)) (t : State) => match u with | (mdc9, sz_9, fEl9) => va_P (dC, dI) vwCl [(zo1iri bo mdc9 aEl (nI sz_9)), (zaR aEl cEl 10 fEl9)] t.heap ∧ va_K (dC, dI) vwCl [(cEl, .object "java/lang/Object")] t ∧ va_D (va_A [(zo1iri bo mdc aEl (nI sz_)), (zaR aEl cEl 10 fEl)] sz) [(zo1iri bo mdc9 aEl (nI sz_9)), (zaR aEl cEl 10 fEl9)]) (va_A [(zo1iri bo mdc aEl (nI sz_)), (zaR aEl cEl 10 fEl)] sz)) 0 0 (va_A [(zo1iri bo mdc aEl (nI sz_)), (zaR aEl cEl 10 fEl)] sz) := by
  refine met_ofQ (cc := cX3_doGoes) (maxL := 3) (ret := (some .int)) (by decide) rfl ?_
  intro p e s m args below meth c s₁ Q B hml hv hQ
  obtain ⟨rfl, hsz, hP, hK, hD0, hI_, hB_, hW_, hZ⟩ := hv
  have hx := B.exec
  have hb := B.bytes
  have hr := B.returns
  have hts := atoms_spec (ws := wsX3_doGoes) B.pre
  have hown : s.vm.findClass RX3 = some m.cls := findClass_of_methodNamed B.named
  have hlocks := B.notSynchronized
  subst hsz
  have hD := hD0.self (sz := s.heap.size)
  generalize hAe : va_A [(zo1iri bo mdc aEl (nI sz_)), (zaR aEl cEl 10 fEl)] s.heap.size = A at hD hQ hI_ hB_ hW_ hZ ⊢
  have hA : ∀ q : Nat, s.heap.size ≤ q → A q := fun q h => by rw [← hAe]; exact Or.inr h
  have hS : va_S A s.heap s.heap [] := va_S.rf
  have hl := lv_entry [.ref a0, .int x, .ref bo] (n := 3) (Nat.le_of_ble_eq_true rfl)
  rw [lg_entry_eq]
  generalize (lg_sl [.ref a0, .int x, .ref bo] ++ List.replicate (3 - (lg_sl [.ref a0, .int x, .ref bo]).length) Slot.unset).toArray = ls at hl ⊢
  generalize hag : ([.ref a0, .int x, .ref bo] : List Value).toArray = args at hts hQ ⊢
  have hl : lv_has ls 3 [(0, .ref a0), (1, .int x), (2, .ref bo)] := hl
  obtain ⟨H, hH⟩ : ∃ H : Heap, H = s.heap := ⟨_, rfl⟩
  rw [← hH] at hP
  rw [← hH]
  have hS : va_S A s.heap H [] := by rw [hH]; exact hS
  obtain ⟨locs, hlo⟩ : ∃ L : List Loc, L = [] := ⟨_, rfl⟩
  rw [← hlo] at hS
  rw [← hlo]
  clear hH hlo
  refine lv_iconst (v := 2) hx hb dX3_doGoes_0 (by decide) ?_
  refine lv_aload_n hx hb dX3_doGoes_1 rfl (lv_at hl 2 rfl) ?_
  have hPc := hP.sub (ws' := [(zo1iri bo mdc aEl (nI sz_)), (zaR aEl cEl 10 fEl)]) [0, 1] rfl
  have hDc := hD.sub (ws' := [(zo1iri bo mdc aEl (nI sz_)), (zaR aEl cEl 10 fEl)]) [0, 1] (by decide) rfl
  have hKc := hK.sub (tys' := [(cEl, .object "java/lang/Object")]) [0] rfl
  have hFc := va_free (wc := [(zo1iri bo mdc aEl (nI sz_)), (zaR aEl cEl 10 fEl)]) hD hS hA [0, 1] rfl
  refine va_callv (va_runS (As := [.int 2, .ref bo]) (rest := []) ⟨hx, hb, hml, hown, hts⟩ (c_begin1 l dC dI ad cB bS bo aEl 2 cEl fEl sz_ mdc tl H.size (by omega) (by omega) (zL)) (va_cwS 2 hts gX3_doGoes_X3_begin rfl rfl rfl hd_yX3_begin.2 ⟨Nat.le_of_ble_eq_true rfl, Nat.le_of_ble_eq_true rfl⟩) ⟨fun a U g mk q => by obtain ⟨q0, q1, qP, qK, qD, qhI_⟩ := q; exact ⟨q0, mvz g mk a q1, mvP g mk a qP, mvK g mk a qK, qD, qhI_.mv g mk a⟩, fun U hU hW => ⟨rfl, by rw [hU], by rw [hU]; exact hPc, va_K.moved hW.alike hKc, hDc.weaken (fun _ _ _ _ => trivial), hI_.call hS hU hW (fun q h => hFc q h)⟩⟩ rfl rfl hl.1 rfl (lv_room (Nat.le_of_ble_eq_true rfl)) dX3_doGoes_2 ⟨Nat.le_of_ble_eq_true rfl, Nat.le_of_ble_eq_true rfl⟩) hS (fun q _ h => hFc q h) hFc (fun u tC H1 locs htC hvm hw_2 hB hz1 hk1 hS => ?_)
  obtain ⟨mdc9_3, sz_9_4, fEl9_5⟩ := u
  try dsimp only at hw_2 hB
  obtain ⟨hP1, hK1, hD1⟩ := hB
  rw [htC] at hP1
  have hK1 := va_K.moved hvm.symm hK1
  obtain ⟨hP, hD⟩ := va_join (wr := []) (w1 := [(zo1iri bo mdc9_3 aEl (nI sz_9_4)), (zaR aEl cEl 10 fEl9_5)]) hP hD [0, 1] [] rfl rfl (by decide) (by decide) hk1 hFc hP1 hD1
  have hK := (hK.sub (tys' := []) [] rfl).app hK1
  generalize H1 = H at hP hS ⊢
  have hP : va_P (dC, dI) vwCl [(zo1iri bo mdc9_3 aEl (nI sz_9_4)), (zaR aEl cEl 10 fEl9_5)] H := hP
  have hD : va_D A [(zo1iri bo mdc9_3 aEl (nI sz_9_4)), (zaR aEl cEl 10 fEl9_5)] := hD
  have hK : va_K (dC, dI) vwCl [(cEl, .object "java/lang/Object")] s := hK
  obtain ⟨e_6, hL_7⟩ := hw_2
  obtain rfl := (e_6).symm
  refine lv_aload_n hx hb dX3_doGoes_5 rfl (lv_at hl 0 rfl) ?_
  refine lv_iload_n hx hb dX3_doGoes_6 rfl (lv_at hl 1 rfl) ?_
  refine lv_aload_n hx hb dX3_doGoes_7 rfl (lv_at hl 2 rfl) ?_
  have hPc := hP.sub (ws' := [(zo1iri bo mdc9_3 aEl (nI (sz_ + 1))), (zaR aEl cEl 10 fEl9_5)]) [0, 1] rfl
  have hDc := hD.sub (ws' := [(zo1iri bo mdc9_3 aEl (nI (sz_ + 1))), (zaR aEl cEl 10 fEl9_5)]) [0, 1] (by decide) rfl
  have hKc := hK.sub (tys' := [(cEl, .object "java/lang/Object")]) [0] rfl
  have hFc := va_free (wc := [(zo1iri bo mdc9_3 aEl (nI (sz_ + 1))), (zaR aEl cEl 10 fEl9_5)]) hD hS hA [0, 1] rfl
  refine va_calli (va_runU (As := [.int x, .ref bo]) (rest := []) ⟨hx, hb, hml, hown, hts⟩ (c_X3_doSees_X7_1 l dC dI ad cB bS    bo aEl i0 sk sv scl x cEl fEl9_5 a0 (sz_ + 1) mdc9_3 (tl ++ [2]) H.size (by omega) (hL_7)) (va_cwU 2 hts gX3_doGoes_X3_doSees_u38X7 rfl rfl rfl rfl (by decide +kernel) ⟨Nat.le_of_ble_eq_true rfl, Nat.le_of_ble_eq_true rfl⟩) ⟨fun a U g mk q => by obtain ⟨q0, q1, qP, qK, qD, qhI_, qhB_, qhW_, qhZ⟩ := q; exact ⟨q0, mvz g mk a q1, mvP g mk a qP, mvK g mk a qK, qD, qhI_.mv g mk a, qhB_.mv g mk a, qhW_.mv g mk a, qhZ.mv g mk a⟩, va_recv hZ.2.1 (hZ.P hS) (ci := 9) (q := (RX7, TX7, 4)) (q0 := 0) rfl rfl, fun U hU hW => ⟨rfl, by rw [hU], by rw [hU]; exact hPc, va_K.moved hW.alike hKc, hDc.weaken (fun _ _ _ _ => trivial), hI_.call hS hU hW (fun q h => hFc q h), hB_.call hS hU hW (fun q h => hFc q h), hW_.call hS hU hW (fun q h => hFc q h), (hZ.sub [0] [] rfl rfl).call hS hU hW (fun q h => hFc q h)⟩⟩ rfl rfl hl.1 rfl (lv_room (Nat.le_of_ble_eq_true rfl)) dX3_doGoes_8 ⟨Nat.le_of_ble_eq_true rfl, Nat.le_of_ble_eq_true rfl⟩) hS (fun q _ h => hFc q h) hFc (fun r_8 u tC H1 locs htC hvm hw_9 hB hz1 hk1 hS => ?_)
  obtain ⟨mdc9_10, sz_9_11, fEl9_12⟩ := u
  try dsimp only at hw_9 hB
  obtain ⟨hP1, hK1, hD1⟩ := hB
  rw [htC] at hP1
  have hK1 := va_K.moved hvm.symm hK1
  obtain ⟨hP, hD⟩ := va_join (wr := []) (w1 := [(zo1iri bo mdc9_10 aEl (nI sz_9_11)), (zaR aEl cEl 10 fEl9_12)]) hP hD [0, 1] [] rfl rfl (by decide) (by decide) hk1 hFc hP1 hD1
  have hK := (hK.sub (tys' := []) [] rfl).app hK1
  generalize H1 = H at hP hS ⊢
  have hP : va_P (dC, dI) vwCl [(zo1iri bo mdc9_10 aEl (nI sz_9_11)), (zaR aEl cEl 10 fEl9_12)] H := hP
  have hD : va_D A [(zo1iri bo mdc9_10 aEl (nI sz_9_11)), (zaR aEl cEl 10 fEl9_12)] := hD
  have hK : va_K (dC, dI) vwCl [(cEl, .object "java/lang/Object")] s := hK
  obtain ⟨er_13, e_14, hL_15⟩ := hw_9
  obtain rfl := (e_14).symm
  subst er_13
  refine lv_aload_n hx hb dX3_doGoes_11 rfl (lv_at hl 0 rfl) ?_
  refine va_get (D := (dC, dI)) (ci := 9) (v := .int sv) (C := RX7) (T := TX7) (N := 4) hx hb hts kc_X3_doGoes_X7_1_1 hown hZ.2.1 (hZ.P hS) 0 rfl rfl 2 (by decide) (hts (.fieldLink RX3 18 "MistHeaps$Heap" "v" "I") kc_X3_doGoes_X7_1_0) (fun _ h9 => h9) rfl dX3_doGoes_12 ?_
  refine lv_isub hx hb dX3_doGoes_15 ?_
  rw [hQ]
  have hP9 := hP.sub (ws' := [(zo1iri bo mdc9_10 aEl (nI ((sz_ + 1) + 1))), (zaR aEl cEl 10 fEl9_12)]) [0, 1] rfl
  have hD9 := hD.sub (ws' := [(zo1iri bo mdc9_10 aEl (nI ((sz_ + 1) + 1))), (zaR aEl cEl 10 fEl9_12)]) [0, 1] (by decide) rfl
  have hK9 := hK.sub (tys' := [(cEl, .object "java/lang/Object")]) [0] rfl
  exact W.iret (v := (x + nI i0) - sv) hx hb hr (fun tQ htQ hWQ => ⟨⟨((x + nI i0) - sv), (mdc9_10, ((sz_ + 1) + 1), fEl9_12), rfl, ⟨rfl, by omega, by have h9 := okL_as (hL_15); exact h9⟩, by rw [htQ]; exact hP9, va_K.moved hWQ.alike hK9, hD9⟩, hS.F htQ⟩) hS.2.2 dX3_doGoes_16

theorem kc_X3_doGoes_X7_0_0 : (.fieldLink RX3 18 "MistHeaps$Heap" "v" "I" : Cond) ∈ wsX3_doGoes := kc_of 236 rfl rfl rfl
theorem kc_X3_doGoes_X7_0_1 : ∀ w ∈ wsX70, w ∈ wsX3_doGoes := fun w h => List.mem_cons_of_mem _ (gin_wsX70 w h)
set_option maxHeartbeats 4000000 in
set_option maxRecDepth 100000 in
theorem c_X3_doGoes_X7_0 (l : Launch) (dC : Nat → ClassId) (dI : Nat → Nat → Nat) (ad : Nat → Nat) (cB bS : Nat)    (bo : Nat) (i0 : Nat) (sk : Int32) (sv : Int32) (scl : Int32) (x : Int32) (a0 : Nat) (mdc : Int32) (sz : Nat) : Met l yX3_doGoes wsX3_doGoes ({ frames := 6, cells := 1, slots := 10, locals := 122 } : Room) (va_Pc [.ref a0, .int x, .ref bo] (fun U => U.heap.size = sz ∧ va_P (dC, dI) vwCl [(zo1iri bo mdc bS 0)] U.heap ∧ va_K (dC, dI) vwCl [] U ∧ va_D (fun _ => True) [(zo1iri bo mdc bS 0)] ∧ Gi ad cB bS (va_A [(zo1iri bo mdc bS 0)] sz) U ∧ Gb (va_A [(zo1iri bo mdc bS 0)] sz) U ∧ Gw (va_A [(zo1iri bo mdc bS 0)] sz) U ∧ Fz dC dI [(zo9iiii a0 sk (nI i0) sv scl)] [] (va_A [(zo1iri bo mdc bS 0)] sz) U)) (va_Qi (fun (r : Int32) (u : (Int32) × (Nat) × (ClassId) × (Nat) × (Nat → Option Nat)) => match u with | (mdc9, aEl9, cEl9, sz_9, fEl9) => r = (x + nI i0) - sv ∧ sz_9 = 2 ∧ okL ad fEl9 sz_9 [2, 1]) (fun (u : (Int32) × (Nat) × (ClassId) × (Nat) × (Nat → Option Nat)) (t : State) => match u with | (mdc9, aEl9, cEl9, sz_9, fEl9) => va_P (dC, dI) vwCl [(zo1iri bo mdc9 aEl9 (nI sz_9)), (zaR aEl9 cEl9 10 fEl9)] t.heap ∧ va_K (dC, dI) vwCl [(cEl9, .object "java/lang/Object")] t ∧ va_D (va_A [(zo1iri bo mdc bS 0)] sz) [(zo1iri bo mdc9 aEl9 (nI sz_9)), (zaR aEl9 cEl9 10 fEl9)]) (va_A [(zo1iri bo mdc bS 0)] sz)) 1 10 (va_A [(zo1iri bo mdc bS 0)] sz) := by
  refine met_ofQ (cc := cX3_doGoes) (maxL := 3) (ret := (some .int)) (by decide) rfl ?_
  intro p e s m args below meth c s₁ Q B hml hv hQ
  obtain ⟨rfl, hsz, hP, hK, hD0, hI_, hB_, hW_, hZ⟩ := hv
  have hx := B.exec
  have hb := B.bytes
  have hr := B.returns
  have hts := atoms_spec (ws := wsX3_doGoes) B.pre
  have hown : s.vm.findClass RX3 = some m.cls := findClass_of_methodNamed B.named
  have hlocks := B.notSynchronized
  subst hsz
  have hD := hD0.self (sz := s.heap.size)
  generalize hAe : va_A [(zo1iri bo mdc bS 0)] s.heap.size = A at hD hQ hI_ hB_ hW_ hZ ⊢
  have hA : ∀ q : Nat, s.heap.size ≤ q → A q := fun q h => by rw [← hAe]; exact Or.inr h
  have hS : va_S A s.heap s.heap [] := va_S.rf
  have hl := lv_entry [.ref a0, .int x, .ref bo] (n := 3) (Nat.le_of_ble_eq_true rfl)
  rw [lg_entry_eq]
  generalize (lg_sl [.ref a0, .int x, .ref bo] ++ List.replicate (3 - (lg_sl [.ref a0, .int x, .ref bo]).length) Slot.unset).toArray = ls at hl ⊢
  generalize hag : ([.ref a0, .int x, .ref bo] : List Value).toArray = args at hts hQ ⊢
  have hl : lv_has ls 3 [(0, .ref a0), (1, .int x), (2, .ref bo)] := hl
  obtain ⟨H, hH⟩ : ∃ H : Heap, H = s.heap := ⟨_, rfl⟩
  rw [← hH] at hP
  rw [← hH]
  have hS : va_S A s.heap H [] := by rw [hH]; exact hS
  obtain ⟨locs, hlo⟩ : ∃ L : List Loc, L = [] := ⟨_, rfl⟩
  rw [← hlo] at hS
  rw [← hlo]
  clear hH hlo
  refine lv_iconst (v := 2) hx hb dX3_doGoes_0 (by decide) ?_
  refine lv_aload_n hx hb dX3_doGoes_1 rfl (lv_at hl 2 rfl) ?_
  have hPc := hP.sub (ws' := [(zo1iri bo mdc bS 0)]) [0] rfl
  have hDc := hD.sub (ws' := [(zo1iri bo mdc bS 0)]) [0] (by decide) rfl
  have hKc := hK.sub (tys' := []) [] rfl
  have hFc := va_free (wc := [(zo1iri bo mdc bS 0)]) hD hS hA [0] rfl
  refine va_callv (va_runS (As := [.int 2, .ref bo]) (rest := []) ⟨hx, hb, hml, hown, hts⟩ (c_begin0 l dC dI ad cB bS bo mdc 2 H.size (by omega)) (va_cwS 2 hts gX3_doGoes_X3_begin rfl rfl rfl hd_yX3_begin.2 ⟨Nat.le_of_ble_eq_true rfl, Nat.le_of_ble_eq_true rfl⟩) ⟨fun a U g mk q => by obtain ⟨q0, q1, qP, qK, qD, qhI_⟩ := q; exact ⟨q0, mvz g mk a q1, mvP g mk a qP, mvK g mk a qK, qD, qhI_.mv g mk a⟩, fun U hU hW => ⟨rfl, by rw [hU], by rw [hU]; exact hPc, va_K.moved hW.alike hKc, hDc.weaken (fun _ _ _ _ => trivial), hI_.call hS hU hW (fun q h => hFc q h)⟩⟩ rfl rfl hl.1 rfl (lv_room (Nat.le_of_ble_eq_true rfl)) dX3_doGoes_2 ⟨Nat.le_of_ble_eq_true rfl, Nat.le_of_ble_eq_true rfl⟩) hS (fun q _ h => hFc q h) hFc (fun u tC H1 locs htC hvm hw_2 hB hz1 hk1 hS => ?_)
  obtain ⟨mdc9_3, aEl9_4, cEl9_5, sz_9_6, fEl9_7⟩ := u
  try dsimp only at hw_2 hB
  obtain ⟨hP1, hK1, hD1⟩ := hB
  rw [htC] at hP1
  have hK1 := va_K.moved hvm.symm hK1
  obtain ⟨hP, hD⟩ := va_join (wr := []) (w1 := [(zo1iri bo mdc9_3 aEl9_4 (nI sz_9_6)), (zaR aEl9_4 cEl9_5 10 fEl9_7)]) hP hD [0] [] rfl rfl (by decide) (by decide) hk1 hFc hP1 hD1
  have hK := (hK.sub (tys' := []) [] rfl).app hK1
  generalize H1 = H at hP hS ⊢
  have hP : va_P (dC, dI) vwCl [(zo1iri bo mdc9_3 aEl9_4 (nI sz_9_6)), (zaR aEl9_4 cEl9_5 10 fEl9_7)] H := hP
  have hD : va_D A [(zo1iri bo mdc9_3 aEl9_4 (nI sz_9_6)), (zaR aEl9_4 cEl9_5 10 fEl9_7)] := hD
  have hK : va_K (dC, dI) vwCl [(cEl9_5, .object "java/lang/Object")] s := hK
  refine W.widen (k := 1) (n := 10) (by omega) (by omega) ?_
  obtain ⟨e_8, hL_9⟩ := hw_2
  obtain rfl := (e_8).symm
  refine lv_aload_n hx hb dX3_doGoes_5 rfl (lv_at hl 0 rfl) ?_
  refine lv_iload_n hx hb dX3_doGoes_6 rfl (lv_at hl 1 rfl) ?_
  refine lv_aload_n hx hb dX3_doGoes_7 rfl (lv_at hl 2 rfl) ?_
  have hPc := hP.sub (ws' := [(zo1iri bo mdc9_3 aEl9_4 (nI 1)), (zaR aEl9_4 cEl9_5 10 fEl9_7)]) [0, 1] rfl
  have hDc := hD.sub (ws' := [(zo1iri bo mdc9_3 aEl9_4 (nI 1)), (zaR aEl9_4 cEl9_5 10 fEl9_7)]) [0, 1] (by decide) rfl
  have hKc := hK.sub (tys' := [(cEl9_5, .object "java/lang/Object")]) [0] rfl
  have hFc := va_free (wc := [(zo1iri bo mdc9_3 aEl9_4 (nI 1)), (zaR aEl9_4 cEl9_5 10 fEl9_7)]) hD hS hA [0, 1] rfl
  refine va_calli (va_runU (As := [.int x, .ref bo]) (rest := []) ⟨hx, hb, hml, hown, hts⟩ (c_X3_doSees_X7_1 l dC dI ad cB bS    bo aEl9_4 i0 sk sv scl x cEl9_5 fEl9_7 a0 1 mdc9_3 ([2]) H.size (by omega) (hL_9)) (va_cwU 2 hts gX3_doGoes_X3_doSees_u38X7 rfl rfl rfl rfl (by decide +kernel) ⟨Nat.le_of_ble_eq_true rfl, Nat.le_of_ble_eq_true rfl⟩) ⟨fun a U g mk q => by obtain ⟨q0, q1, qP, qK, qD, qhI_, qhB_, qhW_, qhZ⟩ := q; exact ⟨q0, mvz g mk a q1, mvP g mk a qP, mvK g mk a qK, qD, qhI_.mv g mk a, qhB_.mv g mk a, qhW_.mv g mk a, qhZ.mv g mk a⟩, va_recv hZ.2.1 (hZ.P hS) (ci := 9) (q := (RX7, TX7, 4)) (q0 := 0) rfl rfl, fun U hU hW => ⟨rfl, by rw [hU], by rw [hU]; exact hPc, va_K.moved hW.alike hKc, hDc.weaken (fun _ _ _ _ => trivial), hI_.call hS hU hW (fun q h => hFc q h), hB_.call hS hU hW (fun q h => hFc q h), hW_.call hS hU hW (fun q h => hFc q h), (hZ.sub [0] [] rfl rfl).call hS hU hW (fun q h => hFc q h)⟩⟩ rfl rfl hl.1 rfl (lv_room (Nat.le_of_ble_eq_true rfl)) dX3_doGoes_8 ⟨Nat.le_of_ble_eq_true rfl, Nat.le_of_ble_eq_true rfl⟩) hS (fun q _ h => hFc q h) hFc (fun r_10 u tC H1 locs htC hvm hw_11 hB hz1 hk1 hS => ?_)
  obtain ⟨mdc9_12, sz_9_13, fEl9_14⟩ := u
  try dsimp only at hw_11 hB
  obtain ⟨hP1, hK1, hD1⟩ := hB
  rw [htC] at hP1
  have hK1 := va_K.moved hvm.symm hK1
  obtain ⟨hP, hD⟩ := va_join (wr := []) (w1 := [(zo1iri bo mdc9_12 aEl9_4 (nI sz_9_13)), (zaR aEl9_4 cEl9_5 10 fEl9_14)]) hP hD [0, 1] [] rfl rfl (by decide) (by decide) hk1 hFc hP1 hD1
  have hK := (hK.sub (tys' := []) [] rfl).app hK1
  generalize H1 = H at hP hS ⊢
  have hP : va_P (dC, dI) vwCl [(zo1iri bo mdc9_12 aEl9_4 (nI sz_9_13)), (zaR aEl9_4 cEl9_5 10 fEl9_14)] H := hP
  have hD : va_D A [(zo1iri bo mdc9_12 aEl9_4 (nI sz_9_13)), (zaR aEl9_4 cEl9_5 10 fEl9_14)] := hD
  have hK : va_K (dC, dI) vwCl [(cEl9_5, .object "java/lang/Object")] s := hK
  obtain ⟨er_15, e_16, hL_17⟩ := hw_11
  obtain rfl := (e_16).symm
  subst er_15
  refine lv_aload_n hx hb dX3_doGoes_11 rfl (lv_at hl 0 rfl) ?_
  refine va_get (D := (dC, dI)) (ci := 9) (v := .int sv) (C := RX7) (T := TX7) (N := 4) hx hb hts kc_X3_doGoes_X7_0_1 hown hZ.2.1 (hZ.P hS) 0 rfl rfl 2 (by decide) (hts (.fieldLink RX3 18 "MistHeaps$Heap" "v" "I") kc_X3_doGoes_X7_0_0) (fun _ h9 => h9) rfl dX3_doGoes_12 ?_
  refine lv_isub hx hb dX3_doGoes_15 ?_
  rw [hQ]
  have hP9 := hP.sub (ws' := [(zo1iri bo mdc9_12 aEl9_4 (nI (1 + 1))), (zaR aEl9_4 cEl9_5 10 fEl9_14)]) [0, 1] rfl
  have hD9 := hD.sub (ws' := [(zo1iri bo mdc9_12 aEl9_4 (nI (1 + 1))), (zaR aEl9_4 cEl9_5 10 fEl9_14)]) [0, 1] (by decide) rfl
  have hK9 := hK.sub (tys' := [(cEl9_5, .object "java/lang/Object")]) [0] rfl
  refine W.widen (k := 1) (n := 10) (by omega) (by omega) ?_
  exact W.iret (v := (x + nI i0) - sv) hx hb hr (fun tQ htQ hWQ => ⟨⟨((x + nI i0) - sv), (mdc9_12, aEl9_4, cEl9_5, (1 + 1), fEl9_14), rfl, ⟨rfl, by omega, hL_17⟩, by rw [htQ]; exact hP9, va_K.moved hWQ.alike hK9, hD9⟩, hS.F htQ⟩) hS.2.2 dX3_doGoes_16

theorem kc_X7_doGoes_X7_1_0 : (.fieldLink RX7 26 "MistHeaps$Old" "v" "I" : Cond) ∈ wsX7_doGoes := kc_of 243 rfl rfl rfl
theorem kc_X7_doGoes_X7_1_1 : ∀ w ∈ wsX70, w ∈ wsX7_doGoes := fun w h => List.mem_cons_of_mem _ (gin_wsX70 w h)
theorem kc_X7_doGoes_X7_1_2 : (.sameField "MistHeaps$Old" "MistHeaps$Heap" "v" "I" : Cond) ∈ wsX7_doGoes := kc_of 244 rfl rfl rfl
set_option maxHeartbeats 4000000 in
set_option maxRecDepth 100000 in
theorem c_X7_doGoes_X7_1 (l : Launch) (dC : Nat → ClassId) (dI : Nat → Nat → Nat) (ad : Nat → Nat) (cB bS : Nat)    (bo : Nat) (aEl : Nat) (i0 : Nat) (sk : Int32) (sv : Int32) (scl : Int32) (x : Int32) (cEl : ClassId) (fEl : Nat → Option Nat) (a0 : Nat) (sz_ : Nat) (mdc : Int32) (tl : List Nat) (sz : Nat) (hsz : sz_ + 3 ≤ 10) (zL : okL ad fEl sz_ tl) : Met l yX7_doGoes wsX7_doGoes ({ frames := 5, cells := 0, slots := 0, locals := 109 } : Room) (va_Pc [.ref a0, .int x, .ref bo] (fun U => U.heap.size = sz ∧ va_P (dC, dI) vwCl [(zo1iri bo mdc aEl (nI sz_)), (zaR aEl cEl 10 fEl)] U.heap ∧ va_K (dC, dI) vwCl [(cEl, .object "java/lang/Object")] U ∧ va_D (fun _ => True) [(zo1iri bo mdc aEl (nI sz_)), (zaR aEl cEl 10 fEl)] ∧ Gi ad cB bS (va_A [(zo1iri bo mdc aEl (nI sz_)), (zaR aEl cEl 10 fEl)] sz) U ∧ Gb (va_A [(zo1iri bo mdc aEl (nI sz_)), (zaR aEl cEl 10 fEl)] sz) U ∧ Gw (va_A [(zo1iri bo mdc aEl (nI sz_)), (zaR aEl cEl 10 fEl)] sz) U ∧ Fz dC dI [(zo9iiii a0 sk (nI i0) sv scl)] [] (va_A [(zo1iri bo mdc aEl (nI sz_)), (zaR aEl cEl 10 fEl)] sz) U)) (va_Qi (fun (r : Int32) (u : (Int32) × (Nat) × (Nat → Option Nat)) => match u with | (mdc9, sz_9, fEl9) => r = ((x + nI i0) - sv) + sv ∧ sz_9 = sz_ + 3 ∧ okL ad fEl9 sz_9 (tl ++ [61, 2, 1])) (fun (u : (Int32) × (Nat) × (Nat → Option Nat)) (t : State) => match u with | (mdc9, sz_9, fEl9) => va_P (dC, dI) vwCl [(zo1iri bo mdc9 aEl (nI sz_9)), (zaR aEl cEl 10 fEl9)] t.heap ∧ va_K (dC, dI) vwCl [(cEl, .object "java/lang/Object")] t ∧ va_D (va_A [(zo1iri bo mdc aEl (nI sz_)), (zaR aEl cEl 10 fEl)] sz) [(zo1iri bo mdc9 aEl (nI sz_9)), (zaR aEl cEl 10 fEl9)]) (va_A [(zo1iri bo mdc aEl (nI sz_)), (zaR aEl cEl 10 fEl)] sz)) 0 0 (va_A [(zo1iri bo mdc aEl (nI sz_)), (zaR aEl cEl 10 fEl)] sz) := by
  refine met_ofQ (cc := cX7_doGoes) (maxL := 3) (ret := (some .int)) (by decide) rfl ?_
  intro p e s m args below meth c s₁ Q B hml hv hQ
  obtain ⟨rfl, hsz, hP, hK, hD0, hI_, hB_, hW_, hZ⟩ := hv
  have hx := B.exec
  have hb := B.bytes
  have hr := B.returns
  have hts := atoms_spec (ws := wsX7_doGoes) B.pre
  have hown : s.vm.findClass RX7 = some m.cls := findClass_of_methodNamed B.named
  have hlocks := B.notSynchronized
  subst hsz
  have hD := hD0.self (sz := s.heap.size)
  generalize hAe : va_A [(zo1iri bo mdc aEl (nI sz_)), (zaR aEl cEl 10 fEl)] s.heap.size = A at hD hQ hI_ hB_ hW_ hZ ⊢
  have hA : ∀ q : Nat, s.heap.size ≤ q → A q := fun q h => by rw [← hAe]; exact Or.inr h
  have hS : va_S A s.heap s.heap [] := va_S.rf
  have hl := lv_entry [.ref a0, .int x, .ref bo] (n := 3) (Nat.le_of_ble_eq_true rfl)
  rw [lg_entry_eq]
  generalize (lg_sl [.ref a0, .int x, .ref bo] ++ List.replicate (3 - (lg_sl [.ref a0, .int x, .ref bo]).length) Slot.unset).toArray = ls at hl ⊢
  generalize hag : ([.ref a0, .int x, .ref bo] : List Value).toArray = args at hts hQ ⊢
  have hl : lv_has ls 3 [(0, .ref a0), (1, .int x), (2, .ref bo)] := hl
  obtain ⟨H, hH⟩ : ∃ H : Heap, H = s.heap := ⟨_, rfl⟩
  rw [← hH] at hP
  rw [← hH]
  have hS : va_S A s.heap H [] := by rw [hH]; exact hS
  obtain ⟨locs, hlo⟩ : ∃ L : List Loc, L = [] := ⟨_, rfl⟩
  rw [← hlo] at hS
  rw [← hlo]
  clear hH hlo
  refine lv_bipush (v := 61) hx hb dX7_doGoes_0 (by decide) ?_
  refine lv_aload_n hx hb dX7_doGoes_2 rfl (lv_at hl 2 rfl) ?_
  have hPc := hP.sub (ws' := [(zo1iri bo mdc aEl (nI sz_)), (zaR aEl cEl 10 fEl)]) [0, 1] rfl
  have hDc := hD.sub (ws' := [(zo1iri bo mdc aEl (nI sz_)), (zaR aEl cEl 10 fEl)]) [0, 1] (by decide) rfl
  have hKc := hK.sub (tys' := [(cEl, .object "java/lang/Object")]) [0] rfl
  have hFc := va_free (wc := [(zo1iri bo mdc aEl (nI sz_)), (zaR aEl cEl 10 fEl)]) hD hS hA [0, 1] rfl
  refine va_callv (va_runU2 (As := [.int 61, .ref bo]) (rest := []) ⟨hx, hb, hml, hown, hts⟩ (c_begin1 l dC dI ad cB bS bo aEl 61 cEl fEl sz_ mdc tl H.size (by omega) (by omega) (zL)) (u2_cw (x := xb7) 2 hB_ inb7 rfl rfl rfl rfl rfl (by decide +kernel) ⟨Nat.le_of_ble_eq_true rfl, Nat.le_of_ble_eq_true rfl⟩) ⟨fun a U g mk q => by obtain ⟨q0, q1, qP, qK, qD, qhI_⟩ := q; exact ⟨q0, mvz g mk a q1, mvP g mk a qP, mvK g mk a qK, qD, qhI_.mv g mk a⟩, fun U hU hW => ⟨rfl, by rw [hU], by rw [hU]; exact hPc, va_K.moved hW.alike hKc, hDc.weaken (fun _ _ _ _ => trivial), hI_.call hS hU hW (fun q h => hFc q h)⟩⟩ rfl rfl hl.1 rfl (lv_room (Nat.le_of_ble_eq_true rfl)) dX7_doGoes_3 ⟨Nat.le_of_ble_eq_true rfl, Nat.le_of_ble_eq_true rfl⟩) hS (fun q _ h => hFc q h) hFc (fun u tC H1 locs htC hvm hw_2 hB hz1 hk1 hS => ?_)
  obtain ⟨mdc9_3, sz_9_4, fEl9_5⟩ := u
  try dsimp only at hw_2 hB
  obtain ⟨hP1, hK1, hD1⟩ := hB
  rw [htC] at hP1
  have hK1 := va_K.moved hvm.symm hK1
  obtain ⟨hP, hD⟩ := va_join (wr := []) (w1 := [(zo1iri bo mdc9_3 aEl (nI sz_9_4)), (zaR aEl cEl 10 fEl9_5)]) hP hD [0, 1] [] rfl rfl (by decide) (by decide) hk1 hFc hP1 hD1
  have hK := (hK.sub (tys' := []) [] rfl).app hK1
  generalize H1 = H at hP hS ⊢
  have hP : va_P (dC, dI) vwCl [(zo1iri bo mdc9_3 aEl (nI sz_9_4)), (zaR aEl cEl 10 fEl9_5)] H := hP
  have hD : va_D A [(zo1iri bo mdc9_3 aEl (nI sz_9_4)), (zaR aEl cEl 10 fEl9_5)] := hD
  have hK : va_K (dC, dI) vwCl [(cEl, .object "java/lang/Object")] s := hK
  obtain ⟨e_6, hL_7⟩ := hw_2
  obtain rfl := (e_6).symm
  refine lv_aload_n hx hb dX7_doGoes_6 rfl (lv_at hl 0 rfl) ?_
  refine lv_iload_n hx hb dX7_doGoes_7 rfl (lv_at hl 1 rfl) ?_
  refine lv_aload_n hx hb dX7_doGoes_8 rfl (lv_at hl 2 rfl) ?_
  have hPc := hP.sub (ws' := [(zo1iri bo mdc9_3 aEl (nI (sz_ + 1))), (zaR aEl cEl 10 fEl9_5)]) [0, 1] rfl
  have hDc := hD.sub (ws' := [(zo1iri bo mdc9_3 aEl (nI (sz_ + 1))), (zaR aEl cEl 10 fEl9_5)]) [0, 1] (by decide) rfl
  have hKc := hK.sub (tys' := [(cEl, .object "java/lang/Object")]) [0] rfl
  have hFc := va_free (wc := [(zo1iri bo mdc9_3 aEl (nI (sz_ + 1))), (zaR aEl cEl 10 fEl9_5)]) hD hS hA [0, 1] rfl
  refine va_calli (va_runS2 (hZ.2.1.1 9 (RX7, TX7, 4) rfl).2 (As := [.int x, .ref bo]) (rest := []) ⟨hx, hb, hml, hown, hts⟩ (c_X3_doGoes_X7_1 l dC dI ad cB bS    bo aEl i0 sk sv scl x cEl fEl9_5 a0 (sz_ + 1) mdc9_3 (tl ++ [61]) H.size (by omega) (hL_7)) (s2_cw (x := x7g) 2 hW_ in7g rfl rfl rfl rfl rfl (by decide +kernel) ⟨Nat.le_of_ble_eq_true rfl, Nat.le_of_ble_eq_true rfl⟩) ⟨fun a U g mk q => by obtain ⟨q0, q1, qP, qK, qD, qhI_, qhB_, qhW_, qhZ⟩ := q; exact ⟨q0, mvz g mk a q1, mvP g mk a qP, mvK g mk a qK, qD, qhI_.mv g mk a, qhB_.mv g mk a, qhW_.mv g mk a, qhZ.mv g mk a⟩, va_recv hZ.2.1 (hZ.P hS) (ci := 9) (q := (RX7, TX7, 4)) (q0 := 0) rfl rfl, fun U hU hW => ⟨rfl, by rw [hU], by rw [hU]; exact hPc, va_K.moved hW.alike hKc, hDc.weaken (fun _ _ _ _ => trivial), hI_.call hS hU hW (fun q h => hFc q h), hB_.call hS hU hW (fun q h => hFc q h), hW_.call hS hU hW (fun q h => hFc q h), (hZ.sub [0] [] rfl rfl).call hS hU hW (fun q h => hFc q h)⟩⟩ rfl rfl hl.1 rfl (lv_room (Nat.le_of_ble_eq_true rfl)) dX7_doGoes_9 ⟨Nat.le_of_ble_eq_true rfl, Nat.le_of_ble_eq_true rfl⟩) hS (fun q _ h => hFc q h) hFc (fun r_8 u tC H1 locs htC hvm hw_9 hB hz1 hk1 hS => ?_)
  obtain ⟨mdc9_10, sz_9_11, fEl9_12⟩ := u
  try dsimp only at hw_9 hB
  obtain ⟨hP1, hK1, hD1⟩ := hB
  rw [htC] at hP1
  have hK1 := va_K.moved hvm.symm hK1
  obtain ⟨hP, hD⟩ := va_join (wr := []) (w1 := [(zo1iri bo mdc9_10 aEl (nI sz_9_11)), (zaR aEl cEl 10 fEl9_12)]) hP hD [0, 1] [] rfl rfl (by decide) (by decide) hk1 hFc hP1 hD1
  have hK := (hK.sub (tys' := []) [] rfl).app hK1
  generalize H1 = H at hP hS ⊢
  have hP : va_P (dC, dI) vwCl [(zo1iri bo mdc9_10 aEl (nI sz_9_11)), (zaR aEl cEl 10 fEl9_12)] H := hP
  have hD : va_D A [(zo1iri bo mdc9_10 aEl (nI sz_9_11)), (zaR aEl cEl 10 fEl9_12)] := hD
  have hK : va_K (dC, dI) vwCl [(cEl, .object "java/lang/Object")] s := hK
  obtain ⟨er_13, e_14, hL_15⟩ := hw_9
  obtain rfl := (e_14).symm
  subst er_13
  refine lv_aload_n hx hb dX7_doGoes_12 rfl (lv_at hl 0 rfl) ?_
  refine va_get (D := (dC, dI)) (ci := 9) (v := .int sv) (C := RX7) (T := TX7) (N := 4) hx hb hts kc_X7_doGoes_X7_1_1 hown hZ.2.1 (hZ.P hS) 0 rfl rfl 2 (by decide) (hts (.fieldLink RX7 26 "MistHeaps$Old" "v" "I") kc_X7_doGoes_X7_1_0) (fun x h => u_same (hts (.sameField "MistHeaps$Old" "MistHeaps$Heap" "v" "I") kc_X7_doGoes_X7_1_2) x h) rfl dX7_doGoes_13 ?_
  refine lv_iadd hx hb dX7_doGoes_16 ?_
  rw [hQ]
  have hP9 := hP.sub (ws' := [(zo1iri bo mdc9_10 aEl (nI ((sz_ + 1) + 2))), (zaR aEl cEl 10 fEl9_12)]) [0, 1] rfl
  have hD9 := hD.sub (ws' := [(zo1iri bo mdc9_10 aEl (nI ((sz_ + 1) + 2))), (zaR aEl cEl 10 fEl9_12)]) [0, 1] (by decide) rfl
  have hK9 := hK.sub (tys' := [(cEl, .object "java/lang/Object")]) [0] rfl
  exact W.iret (v := ((x + nI i0) - sv) + sv) hx hb hr (fun tQ htQ hWQ => ⟨⟨(((x + nI i0) - sv) + sv), (mdc9_10, ((sz_ + 1) + 2), fEl9_12), rfl, ⟨rfl, by omega, by have h9 := okL_as (hL_15); exact h9⟩, by rw [htQ]; exact hP9, va_K.moved hWQ.alike hK9, hD9⟩, hS.F htQ⟩) hS.2.2 dX7_doGoes_17

theorem kc_X7_doGoes_X7_0_0 : (.fieldLink RX7 26 "MistHeaps$Old" "v" "I" : Cond) ∈ wsX7_doGoes := kc_of 243 rfl rfl rfl
theorem kc_X7_doGoes_X7_0_1 : ∀ w ∈ wsX70, w ∈ wsX7_doGoes := fun w h => List.mem_cons_of_mem _ (gin_wsX70 w h)
theorem kc_X7_doGoes_X7_0_2 : (.sameField "MistHeaps$Old" "MistHeaps$Heap" "v" "I" : Cond) ∈ wsX7_doGoes := kc_of 244 rfl rfl rfl
set_option maxHeartbeats 4000000 in
set_option maxRecDepth 100000 in
theorem c_X7_doGoes_X7_0 (l : Launch) (dC : Nat → ClassId) (dI : Nat → Nat → Nat) (ad : Nat → Nat) (cB bS : Nat)    (bo : Nat) (i0 : Nat) (sk : Int32) (sv : Int32) (scl : Int32) (x : Int32) (a0 : Nat) (mdc : Int32) (sz : Nat) : Met l yX7_doGoes wsX7_doGoes ({ frames := 6, cells := 1, slots := 10, locals := 122 } : Room) (va_Pc [.ref a0, .int x, .ref bo] (fun U => U.heap.size = sz ∧ va_P (dC, dI) vwCl [(zo1iri bo mdc bS 0)] U.heap ∧ va_K (dC, dI) vwCl [] U ∧ va_D (fun _ => True) [(zo1iri bo mdc bS 0)] ∧ Gi ad cB bS (va_A [(zo1iri bo mdc bS 0)] sz) U ∧ Gb (va_A [(zo1iri bo mdc bS 0)] sz) U ∧ Gw (va_A [(zo1iri bo mdc bS 0)] sz) U ∧ Fz dC dI [(zo9iiii a0 sk (nI i0) sv scl)] [] (va_A [(zo1iri bo mdc bS 0)] sz) U)) (va_Qi (fun (r : Int32) (u : (Int32) × (Nat) × (ClassId) × (Nat) × (Nat → Option Nat)) => match u with | (mdc9, aEl9, cEl9, sz_9, fEl9) => r = ((x + nI i0) - sv) + sv ∧ sz_9 = 3 ∧ okL ad fEl9 sz_9 [61, 2, 1]) (fun (u : (Int32) × (Nat) × (ClassId) × (Nat) × (Nat → Option Nat)) (t : State) => match u with | (mdc9, aEl9, cEl9, sz_9, fEl9) => va_P (dC, dI) vwCl [(zo1iri bo mdc9 aEl9 (nI sz_9)), (zaR aEl9 cEl9 10 fEl9)] t.heap ∧ va_K (dC, dI) vwCl [(cEl9, .object "java/lang/Object")] t ∧ va_D (va_A [(zo1iri bo mdc bS 0)] sz) [(zo1iri bo mdc9 aEl9 (nI sz_9)), (zaR aEl9 cEl9 10 fEl9)]) (va_A [(zo1iri bo mdc bS 0)] sz)) 1 10 (va_A [(zo1iri bo mdc bS 0)] sz) := by
  refine met_ofQ (cc := cX7_doGoes) (maxL := 3) (ret := (some .int)) (by decide) rfl ?_
  intro p e s m args below meth c s₁ Q B hml hv hQ
  obtain ⟨rfl, hsz, hP, hK, hD0, hI_, hB_, hW_, hZ⟩ := hv
  have hx := B.exec
  have hb := B.bytes
  have hr := B.returns
  have hts := atoms_spec (ws := wsX7_doGoes) B.pre
  have hown : s.vm.findClass RX7 = some m.cls := findClass_of_methodNamed B.named
  have hlocks := B.notSynchronized
  subst hsz
  have hD := hD0.self (sz := s.heap.size)
  generalize hAe : va_A [(zo1iri bo mdc bS 0)] s.heap.size = A at hD hQ hI_ hB_ hW_ hZ ⊢
  have hA : ∀ q : Nat, s.heap.size ≤ q → A q := fun q h => by rw [← hAe]; exact Or.inr h
  have hS : va_S A s.heap s.heap [] := va_S.rf
  have hl := lv_entry [.ref a0, .int x, .ref bo] (n := 3) (Nat.le_of_ble_eq_true rfl)
  rw [lg_entry_eq]
  generalize (lg_sl [.ref a0, .int x, .ref bo] ++ List.replicate (3 - (lg_sl [.ref a0, .int x, .ref bo]).length) Slot.unset).toArray = ls at hl ⊢
  generalize hag : ([.ref a0, .int x, .ref bo] : List Value).toArray = args at hts hQ ⊢
  have hl : lv_has ls 3 [(0, .ref a0), (1, .int x), (2, .ref bo)] := hl
  obtain ⟨H, hH⟩ : ∃ H : Heap, H = s.heap := ⟨_, rfl⟩
  rw [← hH] at hP
  rw [← hH]
  have hS : va_S A s.heap H [] := by rw [hH]; exact hS
  obtain ⟨locs, hlo⟩ : ∃ L : List Loc, L = [] := ⟨_, rfl⟩
  rw [← hlo] at hS
  rw [← hlo]
  clear hH hlo
  refine lv_bipush (v := 61) hx hb dX7_doGoes_0 (by decide) ?_
  refine lv_aload_n hx hb dX7_doGoes_2 rfl (lv_at hl 2 rfl) ?_
  have hPc := hP.sub (ws' := [(zo1iri bo mdc bS 0)]) [0] rfl
  have hDc := hD.sub (ws' := [(zo1iri bo mdc bS 0)]) [0] (by decide) rfl
  have hKc := hK.sub (tys' := []) [] rfl
  have hFc := va_free (wc := [(zo1iri bo mdc bS 0)]) hD hS hA [0] rfl
  refine va_callv (va_runU2 (As := [.int 61, .ref bo]) (rest := []) ⟨hx, hb, hml, hown, hts⟩ (c_begin0 l dC dI ad cB bS bo mdc 61 H.size (by omega)) (u2_cw (x := xb7) 2 hB_ inb7 rfl rfl rfl rfl rfl (by decide +kernel) ⟨Nat.le_of_ble_eq_true rfl, Nat.le_of_ble_eq_true rfl⟩) ⟨fun a U g mk q => by obtain ⟨q0, q1, qP, qK, qD, qhI_⟩ := q; exact ⟨q0, mvz g mk a q1, mvP g mk a qP, mvK g mk a qK, qD, qhI_.mv g mk a⟩, fun U hU hW => ⟨rfl, by rw [hU], by rw [hU]; exact hPc, va_K.moved hW.alike hKc, hDc.weaken (fun _ _ _ _ => trivial), hI_.call hS hU hW (fun q h => hFc q h)⟩⟩ rfl rfl hl.1 rfl (lv_room (Nat.le_of_ble_eq_true rfl)) dX7_doGoes_3 ⟨Nat.le_of_ble_eq_true rfl, Nat.le_of_ble_eq_true rfl⟩) hS (fun q _ h => hFc q h) hFc (fun u tC H1 locs htC hvm hw_2 hB hz1 hk1 hS => ?_)
  obtain ⟨mdc9_3, aEl9_4, cEl9_5, sz_9_6, fEl9_7⟩ := u
  try dsimp only at hw_2 hB
  obtain ⟨hP1, hK1, hD1⟩ := hB
  rw [htC] at hP1
  have hK1 := va_K.moved hvm.symm hK1
  obtain ⟨hP, hD⟩ := va_join (wr := []) (w1 := [(zo1iri bo mdc9_3 aEl9_4 (nI sz_9_6)), (zaR aEl9_4 cEl9_5 10 fEl9_7)]) hP hD [0] [] rfl rfl (by decide) (by decide) hk1 hFc hP1 hD1
  have hK := (hK.sub (tys' := []) [] rfl).app hK1
  generalize H1 = H at hP hS ⊢
  have hP : va_P (dC, dI) vwCl [(zo1iri bo mdc9_3 aEl9_4 (nI sz_9_6)), (zaR aEl9_4 cEl9_5 10 fEl9_7)] H := hP
  have hD : va_D A [(zo1iri bo mdc9_3 aEl9_4 (nI sz_9_6)), (zaR aEl9_4 cEl9_5 10 fEl9_7)] := hD
  have hK : va_K (dC, dI) vwCl [(cEl9_5, .object "java/lang/Object")] s := hK
  refine W.widen (k := 1) (n := 10) (by omega) (by omega) ?_
  obtain ⟨e_8, hL_9⟩ := hw_2
  obtain rfl := (e_8).symm
  refine lv_aload_n hx hb dX7_doGoes_6 rfl (lv_at hl 0 rfl) ?_
  refine lv_iload_n hx hb dX7_doGoes_7 rfl (lv_at hl 1 rfl) ?_
  refine lv_aload_n hx hb dX7_doGoes_8 rfl (lv_at hl 2 rfl) ?_
  have hPc := hP.sub (ws' := [(zo1iri bo mdc9_3 aEl9_4 (nI 1)), (zaR aEl9_4 cEl9_5 10 fEl9_7)]) [0, 1] rfl
  have hDc := hD.sub (ws' := [(zo1iri bo mdc9_3 aEl9_4 (nI 1)), (zaR aEl9_4 cEl9_5 10 fEl9_7)]) [0, 1] (by decide) rfl
  have hKc := hK.sub (tys' := [(cEl9_5, .object "java/lang/Object")]) [0] rfl
  have hFc := va_free (wc := [(zo1iri bo mdc9_3 aEl9_4 (nI 1)), (zaR aEl9_4 cEl9_5 10 fEl9_7)]) hD hS hA [0, 1] rfl
  refine va_calli (va_runS2 (hZ.2.1.1 9 (RX7, TX7, 4) rfl).2 (As := [.int x, .ref bo]) (rest := []) ⟨hx, hb, hml, hown, hts⟩ (c_X3_doGoes_X7_1 l dC dI ad cB bS    bo aEl9_4 i0 sk sv scl x cEl9_5 fEl9_7 a0 1 mdc9_3 ([61]) H.size (by omega) (hL_9)) (s2_cw (x := x7g) 2 hW_ in7g rfl rfl rfl rfl rfl (by decide +kernel) ⟨Nat.le_of_ble_eq_true rfl, Nat.le_of_ble_eq_true rfl⟩) ⟨fun a U g mk q => by obtain ⟨q0, q1, qP, qK, qD, qhI_, qhB_, qhW_, qhZ⟩ := q; exact ⟨q0, mvz g mk a q1, mvP g mk a qP, mvK g mk a qK, qD, qhI_.mv g mk a, qhB_.mv g mk a, qhW_.mv g mk a, qhZ.mv g mk a⟩, va_recv hZ.2.1 (hZ.P hS) (ci := 9) (q := (RX7, TX7, 4)) (q0 := 0) rfl rfl, fun U hU hW => ⟨rfl, by rw [hU], by rw [hU]; exact hPc, va_K.moved hW.alike hKc, hDc.weaken (fun _ _ _ _ => trivial), hI_.call hS hU hW (fun q h => hFc q h), hB_.call hS hU hW (fun q h => hFc q h), hW_.call hS hU hW (fun q h => hFc q h), (hZ.sub [0] [] rfl rfl).call hS hU hW (fun q h => hFc q h)⟩⟩ rfl rfl hl.1 rfl (lv_room (Nat.le_of_ble_eq_true rfl)) dX7_doGoes_9 ⟨Nat.le_of_ble_eq_true rfl, Nat.le_of_ble_eq_true rfl⟩) hS (fun q _ h => hFc q h) hFc (fun r_10 u tC H1 locs htC hvm hw_11 hB hz1 hk1 hS => ?_)
  obtain ⟨mdc9_12, sz_9_13, fEl9_14⟩ := u
  try dsimp only at hw_11 hB
  obtain ⟨hP1, hK1, hD1⟩ := hB
  rw [htC] at hP1
  have hK1 := va_K.moved hvm.symm hK1
  obtain ⟨hP, hD⟩ := va_join (wr := []) (w1 := [(zo1iri bo mdc9_12 aEl9_4 (nI sz_9_13)), (zaR aEl9_4 cEl9_5 10 fEl9_14)]) hP hD [0, 1] [] rfl rfl (by decide) (by decide) hk1 hFc hP1 hD1
  have hK := (hK.sub (tys' := []) [] rfl).app hK1
  generalize H1 = H at hP hS ⊢
  have hP : va_P (dC, dI) vwCl [(zo1iri bo mdc9_12 aEl9_4 (nI sz_9_13)), (zaR aEl9_4 cEl9_5 10 fEl9_14)] H := hP
  have hD : va_D A [(zo1iri bo mdc9_12 aEl9_4 (nI sz_9_13)), (zaR aEl9_4 cEl9_5 10 fEl9_14)] := hD
  have hK : va_K (dC, dI) vwCl [(cEl9_5, .object "java/lang/Object")] s := hK
  obtain ⟨er_15, e_16, hL_17⟩ := hw_11
  obtain rfl := (e_16).symm
  subst er_15
  refine lv_aload_n hx hb dX7_doGoes_12 rfl (lv_at hl 0 rfl) ?_
  refine va_get (D := (dC, dI)) (ci := 9) (v := .int sv) (C := RX7) (T := TX7) (N := 4) hx hb hts kc_X7_doGoes_X7_0_1 hown hZ.2.1 (hZ.P hS) 0 rfl rfl 2 (by decide) (hts (.fieldLink RX7 26 "MistHeaps$Old" "v" "I") kc_X7_doGoes_X7_0_0) (fun x h => u_same (hts (.sameField "MistHeaps$Old" "MistHeaps$Heap" "v" "I") kc_X7_doGoes_X7_0_2) x h) rfl dX7_doGoes_13 ?_
  refine lv_iadd hx hb dX7_doGoes_16 ?_
  rw [hQ]
  have hP9 := hP.sub (ws' := [(zo1iri bo mdc9_12 aEl9_4 (nI (1 + 2))), (zaR aEl9_4 cEl9_5 10 fEl9_14)]) [0, 1] rfl
  have hD9 := hD.sub (ws' := [(zo1iri bo mdc9_12 aEl9_4 (nI (1 + 2))), (zaR aEl9_4 cEl9_5 10 fEl9_14)]) [0, 1] (by decide) rfl
  have hK9 := hK.sub (tys' := [(cEl9_5, .object "java/lang/Object")]) [0] rfl
  refine W.widen (k := 1) (n := 10) (by omega) (by omega) ?_
  exact W.iret (v := ((x + nI i0) - sv) + sv) hx hb hr (fun tQ htQ hWQ => ⟨⟨(((x + nI i0) - sv) + sv), (mdc9_12, aEl9_4, cEl9_5, (1 + 2), fEl9_14), rfl, ⟨rfl, by omega, hL_17⟩, by rw [htQ]; exact hP9, va_K.moved hWQ.alike hK9, hD9⟩, hS.F htQ⟩) hS.2.2 dX7_doGoes_17

theorem kc_X3_doLooks_X7_1_0 : (.code yX3_doGoes cX3_doGoes 3 (some .int) : Cond) ∈ wsX3_doLooks := kc_of 1049 rfl rfl rfl
set_option maxHeartbeats 4000000 in
set_option maxRecDepth 100000 in
theorem c_X3_doLooks_X7_1 (l : Launch) (dC : Nat → ClassId) (dI : Nat → Nat → Nat) (ad : Nat → Nat) (cB bS : Nat)    (bo : Nat) (aEl : Nat) (i0 : Nat) (sk : Int32) (sv : Int32) (scl : Int32) (x : Int32) (cEl : ClassId) (fEl : Nat → Option Nat) (a0 : Nat) (sz_ : Nat) (mdc : Int32) (tl : List Nat) (sz : Nat) (hsz : sz_ + 4 ≤ 10) (zL : okL ad fEl sz_ tl) : Met l yX3_doLooks wsX3_doLooks ({ frames := 6, cells := 0, slots := 0, locals := 131 } : Room) (va_Pc [.ref a0, .int x, .ref bo] (fun U => U.heap.size = sz ∧ va_P (dC, dI) vwCl [(zo1iri bo mdc aEl (nI sz_)), (zaR aEl cEl 10 fEl)] U.heap ∧ va_K (dC, dI) vwCl [(cEl, .object "java/lang/Object")] U ∧ va_D (fun _ => True) [(zo1iri bo mdc aEl (nI sz_)), (zaR aEl cEl 10 fEl)] ∧ Gi ad cB bS (va_A [(zo1iri bo mdc aEl (nI sz_)), (zaR aEl cEl 10 fEl)] sz) U ∧ Gb (va_A [(zo1iri bo mdc aEl (nI sz_)), (zaR aEl cEl 10 fEl)] sz) U ∧ Gw (va_A [(zo1iri bo mdc aEl (nI sz_)), (zaR aEl cEl 10 fEl)] sz) U ∧ Fz dC dI [(zo9iiii a0 sk (nI i0) sv scl)] [] (va_A [(zo1iri bo mdc aEl (nI sz_)), (zaR aEl cEl 10 fEl)] sz) U)) (va_Qi (fun (r : Int32) (u : (Int32) × (Nat) × (Nat → Option Nat)) => match u with | (mdc9, sz_9, fEl9) => r = (((x + nI i0) - sv) + sv) * 2 ∧ sz_9 = sz_ + 4 ∧ okL ad fEl9 sz_9 (tl ++ [3, 61, 2, 1])) (fun (u : (Int32) × (Nat) × (Nat → Option Nat)) (t : State) => match u with | (mdc9, sz_9, fEl9) => va_P (dC, dI) vwCl [(zo1iri bo mdc9 aEl (nI sz_9)), (zaR aEl cEl 10 fEl9)] t.heap ∧ va_K (dC, dI) vwCl [(cEl, .object "java/lang/Object")] t ∧ va_D (va_A [(zo1iri bo mdc aEl (nI sz_)), (zaR aEl cEl 10 fEl)] sz) [(zo1iri bo mdc9 aEl (nI sz_9)), (zaR aEl cEl 10 fEl9)]) (va_A [(zo1iri bo mdc aEl (nI sz_)), (zaR aEl cEl 10 fEl)] sz)) 0 0 (va_A [(zo1iri bo mdc aEl (nI sz_)), (zaR aEl cEl 10 fEl)] sz) := by
  refine met_ofQ (cc := cX3_doLooks) (maxL := 3) (ret := (some .int)) (by decide) rfl ?_
  intro p e s m args below meth c s₁ Q B hml hv hQ
  obtain ⟨rfl, hsz, hP, hK, hD0, hI_, hB_, hW_, hZ⟩ := hv
  have hx := B.exec
  have hb := B.bytes
  have hr := B.returns
  have hts := atoms_spec (ws := wsX3_doLooks) B.pre
  have hown : s.vm.findClass RX3 = some m.cls := findClass_of_methodNamed B.named
  have hlocks := B.notSynchronized
  subst hsz
  have hD := hD0.self (sz := s.heap.size)
  generalize hAe : va_A [(zo1iri bo mdc aEl (nI sz_)), (zaR aEl cEl 10 fEl)] s.heap.size = A at hD hQ hI_ hB_ hW_ hZ ⊢
  have hA : ∀ q : Nat, s.heap.size ≤ q → A q := fun q h => by rw [← hAe]; exact Or.inr h
  have hS : va_S A s.heap s.heap [] := va_S.rf
  have hl := lv_entry [.ref a0, .int x, .ref bo] (n := 3) (Nat.le_of_ble_eq_true rfl)
  rw [lg_entry_eq]
  generalize (lg_sl [.ref a0, .int x, .ref bo] ++ List.replicate (3 - (lg_sl [.ref a0, .int x, .ref bo]).length) Slot.unset).toArray = ls at hl ⊢
  generalize hag : ([.ref a0, .int x, .ref bo] : List Value).toArray = args at hts hQ ⊢
  have hl : lv_has ls 3 [(0, .ref a0), (1, .int x), (2, .ref bo)] := hl
  obtain ⟨H, hH⟩ : ∃ H : Heap, H = s.heap := ⟨_, rfl⟩
  rw [← hH] at hP
  rw [← hH]
  have hS : va_S A s.heap H [] := by rw [hH]; exact hS
  obtain ⟨locs, hlo⟩ : ∃ L : List Loc, L = [] := ⟨_, rfl⟩
  rw [← hlo] at hS
  rw [← hlo]
  clear hH hlo
  refine lv_iconst (v := 3) hx hb dX3_doLooks_0 (by decide) ?_
  refine lv_aload_n hx hb dX3_doLooks_1 rfl (lv_at hl 2 rfl) ?_
  have hPc := hP.sub (ws' := [(zo1iri bo mdc aEl (nI sz_)), (zaR aEl cEl 10 fEl)]) [0, 1] rfl
  have hDc := hD.sub (ws' := [(zo1iri bo mdc aEl (nI sz_)), (zaR aEl cEl 10 fEl)]) [0, 1] (by decide) rfl
  have hKc := hK.sub (tys' := [(cEl, .object "java/lang/Object")]) [0] rfl
  have hFc := va_free (wc := [(zo1iri bo mdc aEl (nI sz_)), (zaR aEl cEl 10 fEl)]) hD hS hA [0, 1] rfl
  refine va_callv (va_runS (As := [.int 3, .ref bo]) (rest := []) ⟨hx, hb, hml, hown, hts⟩ (c_begin1 l dC dI ad cB bS bo aEl 3 cEl fEl sz_ mdc tl H.size (by omega) (by omega) (zL)) (va_cwS 2 hts gX3_doLooks_X3_begin rfl rfl rfl hd_yX3_begin.2 ⟨Nat.le_of_ble_eq_true rfl, Nat.le_of_ble_eq_true rfl⟩) ⟨fun a U g mk q => by obtain ⟨q0, q1, qP, qK, qD, qhI_⟩ := q; exact ⟨q0, mvz g mk a q1, mvP g mk a qP, mvK g mk a qK, qD, qhI_.mv g mk a⟩, fun U hU hW => ⟨rfl, by rw [hU], by rw [hU]; exact hPc, va_K.moved hW.alike hKc, hDc.weaken (fun _ _ _ _ => trivial), hI_.call hS hU hW (fun q h => hFc q h)⟩⟩ rfl rfl hl.1 rfl (lv_room (Nat.le_of_ble_eq_true rfl)) dX3_doLooks_2 ⟨Nat.le_of_ble_eq_true rfl, Nat.le_of_ble_eq_true rfl⟩) hS (fun q _ h => hFc q h) hFc (fun u tC H1 locs htC hvm hw_2 hB hz1 hk1 hS => ?_)
  obtain ⟨mdc9_3, sz_9_4, fEl9_5⟩ := u
  try dsimp only at hw_2 hB
  obtain ⟨hP1, hK1, hD1⟩ := hB
  rw [htC] at hP1
  have hK1 := va_K.moved hvm.symm hK1
  obtain ⟨hP, hD⟩ := va_join (wr := []) (w1 := [(zo1iri bo mdc9_3 aEl (nI sz_9_4)), (zaR aEl cEl 10 fEl9_5)]) hP hD [0, 1] [] rfl rfl (by decide) (by decide) hk1 hFc hP1 hD1
  have hK := (hK.sub (tys' := []) [] rfl).app hK1
  generalize H1 = H at hP hS ⊢
  have hP : va_P (dC, dI) vwCl [(zo1iri bo mdc9_3 aEl (nI sz_9_4)), (zaR aEl cEl 10 fEl9_5)] H := hP
  have hD : va_D A [(zo1iri bo mdc9_3 aEl (nI sz_9_4)), (zaR aEl cEl 10 fEl9_5)] := hD
  have hK : va_K (dC, dI) vwCl [(cEl, .object "java/lang/Object")] s := hK
  obtain ⟨e_6, hL_7⟩ := hw_2
  obtain rfl := (e_6).symm
  refine lv_aload_n hx hb dX3_doLooks_5 rfl (lv_at hl 0 rfl) ?_
  refine lv_iload_n hx hb dX3_doLooks_6 rfl (lv_at hl 1 rfl) ?_
  refine lv_aload_n hx hb dX3_doLooks_7 rfl (lv_at hl 2 rfl) ?_
  have hPc := hP.sub (ws' := [(zo1iri bo mdc9_3 aEl (nI (sz_ + 1))), (zaR aEl cEl 10 fEl9_5)]) [0, 1] rfl
  have hDc := hD.sub (ws' := [(zo1iri bo mdc9_3 aEl (nI (sz_ + 1))), (zaR aEl cEl 10 fEl9_5)]) [0, 1] (by decide) rfl
  have hKc := hK.sub (tys' := [(cEl, .object "java/lang/Object")]) [0] rfl
  have hFc := va_free (wc := [(zo1iri bo mdc9_3 aEl (nI (sz_ + 1))), (zaR aEl cEl 10 fEl9_5)]) hD hS hA [0, 1] rfl
  refine va_calli (va_runU (As := [.int x, .ref bo]) (rest := []) ⟨hx, hb, hml, hown, hts⟩ (c_X7_doGoes_X7_1 l dC dI ad cB bS    bo aEl i0 sk sv scl x cEl fEl9_5 a0 (sz_ + 1) mdc9_3 (tl ++ [3]) H.size (by omega) (hL_7)) (va_cwO 2 hts gX3_doLooks_X7_doGoes_u42X7 rfl rfl rfl kc_X3_doLooks_X7_1_0 (by decide +kernel) ⟨Nat.le_of_ble_eq_true rfl, Nat.le_of_ble_eq_true rfl⟩) ⟨fun a U g mk q => by obtain ⟨q0, q1, qP, qK, qD, qhI_, qhB_, qhW_, qhZ⟩ := q; exact ⟨q0, mvz g mk a q1, mvP g mk a qP, mvK g mk a qK, qD, qhI_.mv g mk a, qhB_.mv g mk a, qhW_.mv g mk a, qhZ.mv g mk a⟩, va_recv hZ.2.1 (hZ.P hS) (ci := 9) (q := (RX7, TX7, 4)) (q0 := 0) rfl rfl, fun U hU hW => ⟨rfl, by rw [hU], by rw [hU]; exact hPc, va_K.moved hW.alike hKc, hDc.weaken (fun _ _ _ _ => trivial), hI_.call hS hU hW (fun q h => hFc q h), hB_.call hS hU hW (fun q h => hFc q h), hW_.call hS hU hW (fun q h => hFc q h), (hZ.sub [0] [] rfl rfl).call hS hU hW (fun q h => hFc q h)⟩⟩ rfl rfl hl.1 rfl (lv_room (Nat.le_of_ble_eq_true rfl)) dX3_doLooks_8 ⟨Nat.le_of_ble_eq_true rfl, Nat.le_of_ble_eq_true rfl⟩) hS (fun q _ h => hFc q h) hFc (fun r_8 u tC H1 locs htC hvm hw_9 hB hz1 hk1 hS => ?_)
  obtain ⟨mdc9_10, sz_9_11, fEl9_12⟩ := u
  try dsimp only at hw_9 hB
  obtain ⟨hP1, hK1, hD1⟩ := hB
  rw [htC] at hP1
  have hK1 := va_K.moved hvm.symm hK1
  obtain ⟨hP, hD⟩ := va_join (wr := []) (w1 := [(zo1iri bo mdc9_10 aEl (nI sz_9_11)), (zaR aEl cEl 10 fEl9_12)]) hP hD [0, 1] [] rfl rfl (by decide) (by decide) hk1 hFc hP1 hD1
  have hK := (hK.sub (tys' := []) [] rfl).app hK1
  generalize H1 = H at hP hS ⊢
  have hP : va_P (dC, dI) vwCl [(zo1iri bo mdc9_10 aEl (nI sz_9_11)), (zaR aEl cEl 10 fEl9_12)] H := hP
  have hD : va_D A [(zo1iri bo mdc9_10 aEl (nI sz_9_11)), (zaR aEl cEl 10 fEl9_12)] := hD
  have hK : va_K (dC, dI) vwCl [(cEl, .object "java/lang/Object")] s := hK
  obtain ⟨er_13, e_14, hL_15⟩ := hw_9
  obtain rfl := (e_14).symm
  subst er_13
  refine lv_iconst (v := 2) hx hb dX3_doLooks_11 (by decide) ?_
  refine lv_imul hx hb dX3_doLooks_12 ?_
  rw [hQ]
  have hP9 := hP.sub (ws' := [(zo1iri bo mdc9_10 aEl (nI ((sz_ + 1) + 3))), (zaR aEl cEl 10 fEl9_12)]) [0, 1] rfl
  have hD9 := hD.sub (ws' := [(zo1iri bo mdc9_10 aEl (nI ((sz_ + 1) + 3))), (zaR aEl cEl 10 fEl9_12)]) [0, 1] (by decide) rfl
  have hK9 := hK.sub (tys' := [(cEl, .object "java/lang/Object")]) [0] rfl
  exact W.iret (v := (((x + nI i0) - sv) + sv) * 2) hx hb hr (fun tQ htQ hWQ => ⟨⟨((((x + nI i0) - sv) + sv) * 2), (mdc9_10, ((sz_ + 1) + 3), fEl9_12), rfl, ⟨rfl, by omega, by have h9 := okL_as (hL_15); exact h9⟩, by rw [htQ]; exact hP9, va_K.moved hWQ.alike hK9, hD9⟩, hS.F htQ⟩) hS.2.2 dX3_doLooks_13

theorem kc_X3_doLooks_X7_0_0 : (.code yX3_doGoes cX3_doGoes 3 (some .int) : Cond) ∈ wsX3_doLooks := kc_of 1049 rfl rfl rfl
set_option maxHeartbeats 4000000 in
set_option maxRecDepth 100000 in
theorem c_X3_doLooks_X7_0 (l : Launch) (dC : Nat → ClassId) (dI : Nat → Nat → Nat) (ad : Nat → Nat) (cB bS : Nat)    (bo : Nat) (i0 : Nat) (sk : Int32) (sv : Int32) (scl : Int32) (x : Int32) (a0 : Nat) (mdc : Int32) (sz : Nat) : Met l yX3_doLooks wsX3_doLooks ({ frames := 6, cells := 1, slots := 10, locals := 131 } : Room) (va_Pc [.ref a0, .int x, .ref bo] (fun U => U.heap.size = sz ∧ va_P (dC, dI) vwCl [(zo1iri bo mdc bS 0)] U.heap ∧ va_K (dC, dI) vwCl [] U ∧ va_D (fun _ => True) [(zo1iri bo mdc bS 0)] ∧ Gi ad cB bS (va_A [(zo1iri bo mdc bS 0)] sz) U ∧ Gb (va_A [(zo1iri bo mdc bS 0)] sz) U ∧ Gw (va_A [(zo1iri bo mdc bS 0)] sz) U ∧ Fz dC dI [(zo9iiii a0 sk (nI i0) sv scl)] [] (va_A [(zo1iri bo mdc bS 0)] sz) U)) (va_Qi (fun (r : Int32) (u : (Int32) × (Nat) × (ClassId) × (Nat) × (Nat → Option Nat)) => match u with | (mdc9, aEl9, cEl9, sz_9, fEl9) => r = (((x + nI i0) - sv) + sv) * 2 ∧ sz_9 = 4 ∧ okL ad fEl9 sz_9 [3, 61, 2, 1]) (fun (u : (Int32) × (Nat) × (ClassId) × (Nat) × (Nat → Option Nat)) (t : State) => match u with | (mdc9, aEl9, cEl9, sz_9, fEl9) => va_P (dC, dI) vwCl [(zo1iri bo mdc9 aEl9 (nI sz_9)), (zaR aEl9 cEl9 10 fEl9)] t.heap ∧ va_K (dC, dI) vwCl [(cEl9, .object "java/lang/Object")] t ∧ va_D (va_A [(zo1iri bo mdc bS 0)] sz) [(zo1iri bo mdc9 aEl9 (nI sz_9)), (zaR aEl9 cEl9 10 fEl9)]) (va_A [(zo1iri bo mdc bS 0)] sz)) 1 10 (va_A [(zo1iri bo mdc bS 0)] sz) := by
  refine met_ofQ (cc := cX3_doLooks) (maxL := 3) (ret := (some .int)) (by decide) rfl ?_
  intro p e s m args below meth c s₁ Q B hml hv hQ
  obtain ⟨rfl, hsz, hP, hK, hD0, hI_, hB_, hW_, hZ⟩ := hv
  have hx := B.exec
  have hb := B.bytes
  have hr := B.returns
  have hts := atoms_spec (ws := wsX3_doLooks) B.pre
  have hown : s.vm.findClass RX3 = some m.cls := findClass_of_methodNamed B.named
  have hlocks := B.notSynchronized
  subst hsz
  have hD := hD0.self (sz := s.heap.size)
  generalize hAe : va_A [(zo1iri bo mdc bS 0)] s.heap.size = A at hD hQ hI_ hB_ hW_ hZ ⊢
  have hA : ∀ q : Nat, s.heap.size ≤ q → A q := fun q h => by rw [← hAe]; exact Or.inr h
  have hS : va_S A s.heap s.heap [] := va_S.rf
  have hl := lv_entry [.ref a0, .int x, .ref bo] (n := 3) (Nat.le_of_ble_eq_true rfl)
  rw [lg_entry_eq]
  generalize (lg_sl [.ref a0, .int x, .ref bo] ++ List.replicate (3 - (lg_sl [.ref a0, .int x, .ref bo]).length) Slot.unset).toArray = ls at hl ⊢
  generalize hag : ([.ref a0, .int x, .ref bo] : List Value).toArray = args at hts hQ ⊢
  have hl : lv_has ls 3 [(0, .ref a0), (1, .int x), (2, .ref bo)] := hl
  obtain ⟨H, hH⟩ : ∃ H : Heap, H = s.heap := ⟨_, rfl⟩
  rw [← hH] at hP
  rw [← hH]
  have hS : va_S A s.heap H [] := by rw [hH]; exact hS
  obtain ⟨locs, hlo⟩ : ∃ L : List Loc, L = [] := ⟨_, rfl⟩
  rw [← hlo] at hS
  rw [← hlo]
  clear hH hlo
  refine lv_iconst (v := 3) hx hb dX3_doLooks_0 (by decide) ?_
  refine lv_aload_n hx hb dX3_doLooks_1 rfl (lv_at hl 2 rfl) ?_
  have hPc := hP.sub (ws' := [(zo1iri bo mdc bS 0)]) [0] rfl
  have hDc := hD.sub (ws' := [(zo1iri bo mdc bS 0)]) [0] (by decide) rfl
  have hKc := hK.sub (tys' := []) [] rfl
  have hFc := va_free (wc := [(zo1iri bo mdc bS 0)]) hD hS hA [0] rfl
  refine va_callv (va_runS (As := [.int 3, .ref bo]) (rest := []) ⟨hx, hb, hml, hown, hts⟩ (c_begin0 l dC dI ad cB bS bo mdc 3 H.size (by omega)) (va_cwS 2 hts gX3_doLooks_X3_begin rfl rfl rfl hd_yX3_begin.2 ⟨Nat.le_of_ble_eq_true rfl, Nat.le_of_ble_eq_true rfl⟩) ⟨fun a U g mk q => by obtain ⟨q0, q1, qP, qK, qD, qhI_⟩ := q; exact ⟨q0, mvz g mk a q1, mvP g mk a qP, mvK g mk a qK, qD, qhI_.mv g mk a⟩, fun U hU hW => ⟨rfl, by rw [hU], by rw [hU]; exact hPc, va_K.moved hW.alike hKc, hDc.weaken (fun _ _ _ _ => trivial), hI_.call hS hU hW (fun q h => hFc q h)⟩⟩ rfl rfl hl.1 rfl (lv_room (Nat.le_of_ble_eq_true rfl)) dX3_doLooks_2 ⟨Nat.le_of_ble_eq_true rfl, Nat.le_of_ble_eq_true rfl⟩) hS (fun q _ h => hFc q h) hFc (fun u tC H1 locs htC hvm hw_2 hB hz1 hk1 hS => ?_)
  obtain ⟨mdc9_3, aEl9_4, cEl9_5, sz_9_6, fEl9_7⟩ := u
  try dsimp only at hw_2 hB
  obtain ⟨hP1, hK1, hD1⟩ := hB
  rw [htC] at hP1
  have hK1 := va_K.moved hvm.symm hK1
  obtain ⟨hP, hD⟩ := va_join (wr := []) (w1 := [(zo1iri bo mdc9_3 aEl9_4 (nI sz_9_6)), (zaR aEl9_4 cEl9_5 10 fEl9_7)]) hP hD [0] [] rfl rfl (by decide) (by decide) hk1 hFc hP1 hD1
  have hK := (hK.sub (tys' := []) [] rfl).app hK1
  generalize H1 = H at hP hS ⊢
  have hP : va_P (dC, dI) vwCl [(zo1iri bo mdc9_3 aEl9_4 (nI sz_9_6)), (zaR aEl9_4 cEl9_5 10 fEl9_7)] H := hP
  have hD : va_D A [(zo1iri bo mdc9_3 aEl9_4 (nI sz_9_6)), (zaR aEl9_4 cEl9_5 10 fEl9_7)] := hD
  have hK : va_K (dC, dI) vwCl [(cEl9_5, .object "java/lang/Object")] s := hK
  refine W.widen (k := 1) (n := 10) (by omega) (by omega) ?_
  obtain ⟨e_8, hL_9⟩ := hw_2
  obtain rfl := (e_8).symm
  refine lv_aload_n hx hb dX3_doLooks_5 rfl (lv_at hl 0 rfl) ?_
  refine lv_iload_n hx hb dX3_doLooks_6 rfl (lv_at hl 1 rfl) ?_
  refine lv_aload_n hx hb dX3_doLooks_7 rfl (lv_at hl 2 rfl) ?_
  have hPc := hP.sub (ws' := [(zo1iri bo mdc9_3 aEl9_4 (nI 1)), (zaR aEl9_4 cEl9_5 10 fEl9_7)]) [0, 1] rfl
  have hDc := hD.sub (ws' := [(zo1iri bo mdc9_3 aEl9_4 (nI 1)), (zaR aEl9_4 cEl9_5 10 fEl9_7)]) [0, 1] (by decide) rfl
  have hKc := hK.sub (tys' := [(cEl9_5, .object "java/lang/Object")]) [0] rfl
  have hFc := va_free (wc := [(zo1iri bo mdc9_3 aEl9_4 (nI 1)), (zaR aEl9_4 cEl9_5 10 fEl9_7)]) hD hS hA [0, 1] rfl
  refine va_calli (va_runU (As := [.int x, .ref bo]) (rest := []) ⟨hx, hb, hml, hown, hts⟩ (c_X7_doGoes_X7_1 l dC dI ad cB bS    bo aEl9_4 i0 sk sv scl x cEl9_5 fEl9_7 a0 1 mdc9_3 ([3]) H.size (by omega) (hL_9)) (va_cwO 2 hts gX3_doLooks_X7_doGoes_u42X7 rfl rfl rfl kc_X3_doLooks_X7_0_0 (by decide +kernel) ⟨Nat.le_of_ble_eq_true rfl, Nat.le_of_ble_eq_true rfl⟩) ⟨fun a U g mk q => by obtain ⟨q0, q1, qP, qK, qD, qhI_, qhB_, qhW_, qhZ⟩ := q; exact ⟨q0, mvz g mk a q1, mvP g mk a qP, mvK g mk a qK, qD, qhI_.mv g mk a, qhB_.mv g mk a, qhW_.mv g mk a, qhZ.mv g mk a⟩, va_recv hZ.2.1 (hZ.P hS) (ci := 9) (q := (RX7, TX7, 4)) (q0 := 0) rfl rfl, fun U hU hW => ⟨rfl, by rw [hU], by rw [hU]; exact hPc, va_K.moved hW.alike hKc, hDc.weaken (fun _ _ _ _ => trivial), hI_.call hS hU hW (fun q h => hFc q h), hB_.call hS hU hW (fun q h => hFc q h), hW_.call hS hU hW (fun q h => hFc q h), (hZ.sub [0] [] rfl rfl).call hS hU hW (fun q h => hFc q h)⟩⟩ rfl rfl hl.1 rfl (lv_room (Nat.le_of_ble_eq_true rfl)) dX3_doLooks_8 ⟨Nat.le_of_ble_eq_true rfl, Nat.le_of_ble_eq_true rfl⟩) hS (fun q _ h => hFc q h) hFc (fun r_10 u tC H1 locs htC hvm hw_11 hB hz1 hk1 hS => ?_)
  obtain ⟨mdc9_12, sz_9_13, fEl9_14⟩ := u
  try dsimp only at hw_11 hB
  obtain ⟨hP1, hK1, hD1⟩ := hB
  rw [htC] at hP1
  have hK1 := va_K.moved hvm.symm hK1
  obtain ⟨hP, hD⟩ := va_join (wr := []) (w1 := [(zo1iri bo mdc9_12 aEl9_4 (nI sz_9_13)), (zaR aEl9_4 cEl9_5 10 fEl9_14)]) hP hD [0, 1] [] rfl rfl (by decide) (by decide) hk1 hFc hP1 hD1
  have hK := (hK.sub (tys' := []) [] rfl).app hK1
  generalize H1 = H at hP hS ⊢
  have hP : va_P (dC, dI) vwCl [(zo1iri bo mdc9_12 aEl9_4 (nI sz_9_13)), (zaR aEl9_4 cEl9_5 10 fEl9_14)] H := hP
  have hD : va_D A [(zo1iri bo mdc9_12 aEl9_4 (nI sz_9_13)), (zaR aEl9_4 cEl9_5 10 fEl9_14)] := hD
  have hK : va_K (dC, dI) vwCl [(cEl9_5, .object "java/lang/Object")] s := hK
  obtain ⟨er_15, e_16, hL_17⟩ := hw_11
  obtain rfl := (e_16).symm
  subst er_15
  refine lv_iconst (v := 2) hx hb dX3_doLooks_11 (by decide) ?_
  refine lv_imul hx hb dX3_doLooks_12 ?_
  rw [hQ]
  have hP9 := hP.sub (ws' := [(zo1iri bo mdc9_12 aEl9_4 (nI (1 + 3))), (zaR aEl9_4 cEl9_5 10 fEl9_14)]) [0, 1] rfl
  have hD9 := hD.sub (ws' := [(zo1iri bo mdc9_12 aEl9_4 (nI (1 + 3))), (zaR aEl9_4 cEl9_5 10 fEl9_14)]) [0, 1] (by decide) rfl
  have hK9 := hK.sub (tys' := [(cEl9_5, .object "java/lang/Object")]) [0] rfl
  refine W.widen (k := 1) (n := 10) (by omega) (by omega) ?_
  exact W.iret (v := (((x + nI i0) - sv) + sv) * 2) hx hb hr (fun tQ htQ hWQ => ⟨⟨((((x + nI i0) - sv) + sv) * 2), (mdc9_12, aEl9_4, cEl9_5, (1 + 3), fEl9_14), rfl, ⟨rfl, by omega, hL_17⟩, by rw [htQ]; exact hP9, va_K.moved hWQ.alike hK9, hD9⟩, hS.F htQ⟩) hS.2.2 dX3_doLooks_13

set_option maxHeartbeats 4000000 in
set_option maxRecDepth 100000 in
theorem c_X1_doLooks_X7_1 (l : Launch) (dC : Nat → ClassId) (dI : Nat → Nat → Nat) (ad : Nat → Nat) (cB bS : Nat)    (bo : Nat) (aEl : Nat) (i0 : Nat) (sk : Int32) (sv : Int32) (scl : Int32) (x : Int32) (cEl : ClassId) (fEl : Nat → Option Nat) (a0 : Nat) (sz_ : Nat) (mdc : Int32) (tl : List Nat) (sz : Nat) (hsz : sz_ + 5 ≤ 10) (zL : okL ad fEl sz_ tl) : Met l yX1_doLooks wsX1_doLooks ({ frames := 7, cells := 0, slots := 0, locals := 153 } : Room) (va_Pc [.ref a0, .int x, .ref bo] (fun U => U.heap.size = sz ∧ va_P (dC, dI) vwCl [(zo1iri bo mdc aEl (nI sz_)), (zaR aEl cEl 10 fEl)] U.heap ∧ va_K (dC, dI) vwCl [(cEl, .object "java/lang/Object")] U ∧ va_D (fun _ => True) [(zo1iri bo mdc aEl (nI sz_)), (zaR aEl cEl 10 fEl)] ∧ Gi ad cB bS (va_A [(zo1iri bo mdc aEl (nI sz_)), (zaR aEl cEl 10 fEl)] sz) U ∧ Gb (va_A [(zo1iri bo mdc aEl (nI sz_)), (zaR aEl cEl 10 fEl)] sz) U ∧ Gw (va_A [(zo1iri bo mdc aEl (nI sz_)), (zaR aEl cEl 10 fEl)] sz) U ∧ Fz dC dI [(zo9iiii a0 sk (nI i0) sv scl)] [] (va_A [(zo1iri bo mdc aEl (nI sz_)), (zaR aEl cEl 10 fEl)] sz) U)) (va_Qi (fun (r : Int32) (u : (Int32) × (Nat) × (Nat → Option Nat)) => match u with | (mdc9, sz_9, fEl9) => r = ((((x + nI i0) - sv) + sv) * 2) ^^^ 7 ∧ sz_9 = sz_ + 5 ∧ okL ad fEl9 sz_9 (tl ++ [31, 3, 61, 2, 1])) (fun (u : (Int32) × (Nat) × (Nat → Option Nat)) (t : State) => match u with | (mdc9, sz_9, fEl9) => va_P (dC, dI) vwCl [(zo1iri bo mdc9 aEl (nI sz_9)), (zaR aEl cEl 10 fEl9)] t.heap ∧ va_K (dC, dI) vwCl [(cEl, .object "java/lang/Object")] t ∧ va_D (va_A [(zo1iri bo mdc aEl (nI sz_)), (zaR aEl cEl 10 fEl)] sz) [(zo1iri bo mdc9 aEl (nI sz_9)), (zaR aEl cEl 10 fEl9)]) (va_A [(zo1iri bo mdc aEl (nI sz_)), (zaR aEl cEl 10 fEl)] sz)) 0 0 (va_A [(zo1iri bo mdc aEl (nI sz_)), (zaR aEl cEl 10 fEl)] sz) := by
  refine met_ofQ (cc := cX1_doLooks) (maxL := 3) (ret := (some .int)) (by decide) rfl ?_
  intro p e s m args below meth c s₁ Q B hml hv hQ
  obtain ⟨rfl, hsz, hP, hK, hD0, hI_, hB_, hW_, hZ⟩ := hv
  have hx := B.exec
  have hb := B.bytes
  have hr := B.returns
  have hts := atoms_spec (ws := wsX1_doLooks) B.pre
  have hown : s.vm.findClass RX1 = some m.cls := findClass_of_methodNamed B.named
  have hlocks := B.notSynchronized
  subst hsz
  have hD := hD0.self (sz := s.heap.size)
  generalize hAe : va_A [(zo1iri bo mdc aEl (nI sz_)), (zaR aEl cEl 10 fEl)] s.heap.size = A at hD hQ hI_ hB_ hW_ hZ ⊢
  have hA : ∀ q : Nat, s.heap.size ≤ q → A q := fun q h => by rw [← hAe]; exact Or.inr h
  have hS : va_S A s.heap s.heap [] := va_S.rf
  have hl := lv_entry [.ref a0, .int x, .ref bo] (n := 3) (Nat.le_of_ble_eq_true rfl)
  rw [lg_entry_eq]
  generalize (lg_sl [.ref a0, .int x, .ref bo] ++ List.replicate (3 - (lg_sl [.ref a0, .int x, .ref bo]).length) Slot.unset).toArray = ls at hl ⊢
  generalize hag : ([.ref a0, .int x, .ref bo] : List Value).toArray = args at hts hQ ⊢
  have hl : lv_has ls 3 [(0, .ref a0), (1, .int x), (2, .ref bo)] := hl
  obtain ⟨H, hH⟩ : ∃ H : Heap, H = s.heap := ⟨_, rfl⟩
  rw [← hH] at hP
  rw [← hH]
  have hS : va_S A s.heap H [] := by rw [hH]; exact hS
  obtain ⟨locs, hlo⟩ : ∃ L : List Loc, L = [] := ⟨_, rfl⟩
  rw [← hlo] at hS
  rw [← hlo]
  clear hH hlo
  refine lv_bipush (v := 31) hx hb dX1_doLooks_0 (by decide) ?_
  refine lv_aload_n hx hb dX1_doLooks_2 rfl (lv_at hl 2 rfl) ?_
  have hPc := hP.sub (ws' := [(zo1iri bo mdc aEl (nI sz_)), (zaR aEl cEl 10 fEl)]) [0, 1] rfl
  have hDc := hD.sub (ws' := [(zo1iri bo mdc aEl (nI sz_)), (zaR aEl cEl 10 fEl)]) [0, 1] (by decide) rfl
  have hKc := hK.sub (tys' := [(cEl, .object "java/lang/Object")]) [0] rfl
  have hFc := va_free (wc := [(zo1iri bo mdc aEl (nI sz_)), (zaR aEl cEl 10 fEl)]) hD hS hA [0, 1] rfl
  refine va_callv (va_runU2 (As := [.int 31, .ref bo]) (rest := []) ⟨hx, hb, hml, hown, hts⟩ (c_begin1 l dC dI ad cB bS bo aEl 31 cEl fEl sz_ mdc tl H.size (by omega) (by omega) (zL)) (u2_cw (x := xb1) 2 hB_ inb1 rfl rfl rfl rfl rfl (by decide +kernel) ⟨Nat.le_of_ble_eq_true rfl, Nat.le_of_ble_eq_true rfl⟩) ⟨fun a U g mk q => by obtain ⟨q0, q1, qP, qK, qD, qhI_⟩ := q; exact ⟨q0, mvz g mk a q1, mvP g mk a qP, mvK g mk a qK, qD, qhI_.mv g mk a⟩, fun U hU hW => ⟨rfl, by rw [hU], by rw [hU]; exact hPc, va_K.moved hW.alike hKc, hDc.weaken (fun _ _ _ _ => trivial), hI_.call hS hU hW (fun q h => hFc q h)⟩⟩ rfl rfl hl.1 rfl (lv_room (Nat.le_of_ble_eq_true rfl)) dX1_doLooks_3 ⟨Nat.le_of_ble_eq_true rfl, Nat.le_of_ble_eq_true rfl⟩) hS (fun q _ h => hFc q h) hFc (fun u tC H1 locs htC hvm hw_2 hB hz1 hk1 hS => ?_)
  obtain ⟨mdc9_3, sz_9_4, fEl9_5⟩ := u
  try dsimp only at hw_2 hB
  obtain ⟨hP1, hK1, hD1⟩ := hB
  rw [htC] at hP1
  have hK1 := va_K.moved hvm.symm hK1
  obtain ⟨hP, hD⟩ := va_join (wr := []) (w1 := [(zo1iri bo mdc9_3 aEl (nI sz_9_4)), (zaR aEl cEl 10 fEl9_5)]) hP hD [0, 1] [] rfl rfl (by decide) (by decide) hk1 hFc hP1 hD1
  have hK := (hK.sub (tys' := []) [] rfl).app hK1
  generalize H1 = H at hP hS ⊢
  have hP : va_P (dC, dI) vwCl [(zo1iri bo mdc9_3 aEl (nI sz_9_4)), (zaR aEl cEl 10 fEl9_5)] H := hP
  have hD : va_D A [(zo1iri bo mdc9_3 aEl (nI sz_9_4)), (zaR aEl cEl 10 fEl9_5)] := hD
  have hK : va_K (dC, dI) vwCl [(cEl, .object "java/lang/Object")] s := hK
  obtain ⟨e_6, hL_7⟩ := hw_2
  obtain rfl := (e_6).symm
  refine lv_aload_n hx hb dX1_doLooks_6 rfl (lv_at hl 0 rfl) ?_
  refine lv_iload_n hx hb dX1_doLooks_7 rfl (lv_at hl 1 rfl) ?_
  refine lv_aload_n hx hb dX1_doLooks_8 rfl (lv_at hl 2 rfl) ?_
  have hPc := hP.sub (ws' := [(zo1iri bo mdc9_3 aEl (nI (sz_ + 1))), (zaR aEl cEl 10 fEl9_5)]) [0, 1] rfl
  have hDc := hD.sub (ws' := [(zo1iri bo mdc9_3 aEl (nI (sz_ + 1))), (zaR aEl cEl 10 fEl9_5)]) [0, 1] (by decide) rfl
  have hKc := hK.sub (tys' := [(cEl, .object "java/lang/Object")]) [0] rfl
  have hFc := va_free (wc := [(zo1iri bo mdc9_3 aEl (nI (sz_ + 1))), (zaR aEl cEl 10 fEl9_5)]) hD hS hA [0, 1] rfl
  refine va_calli (va_runSU (hZ.2.1.1 9 (RX7, TX7, 4) rfl).2 (As := [.int x, .ref bo]) (rest := []) ⟨hx, hb, hml, hown, hts⟩ (c_X3_doLooks_X7_1 l dC dI ad cB bS    bo aEl i0 sk sv scl x cEl fEl9_5 a0 (sz_ + 1) mdc9_3 (tl ++ [31]) H.size (by omega) (hL_7)) (va_cwSU 2 hts gX1_doLooks_X3_doLooks_s13 rfl rfl rfl (by decide +kernel) ⟨Nat.le_of_ble_eq_true rfl, Nat.le_of_ble_eq_true rfl⟩) ⟨fun a U g mk q => by obtain ⟨q0, q1, qP, qK, qD, qhI_, qhB_, qhW_, qhZ⟩ := q; exact ⟨q0, mvz g mk a q1, mvP g mk a qP, mvK g mk a qK, qD, qhI_.mv g mk a, qhB_.mv g mk a, qhW_.mv g mk a, qhZ.mv g mk a⟩, va_recv hZ.2.1 (hZ.P hS) (ci := 9) (q := (RX7, TX7, 4)) (q0 := 0) rfl rfl, fun U hU hW => ⟨rfl, by rw [hU], by rw [hU]; exact hPc, va_K.moved hW.alike hKc, hDc.weaken (fun _ _ _ _ => trivial), hI_.call hS hU hW (fun q h => hFc q h), hB_.call hS hU hW (fun q h => hFc q h), hW_.call hS hU hW (fun q h => hFc q h), (hZ.sub [0] [] rfl rfl).call hS hU hW (fun q h => hFc q h)⟩⟩ rfl rfl hl.1 rfl (lv_room (Nat.le_of_ble_eq_true rfl)) dX1_doLooks_9 ⟨Nat.le_of_ble_eq_true rfl, Nat.le_of_ble_eq_true rfl⟩) hS (fun q _ h => hFc q h) hFc (fun r_8 u tC H1 locs htC hvm hw_9 hB hz1 hk1 hS => ?_)
  obtain ⟨mdc9_10, sz_9_11, fEl9_12⟩ := u
  try dsimp only at hw_9 hB
  obtain ⟨hP1, hK1, hD1⟩ := hB
  rw [htC] at hP1
  have hK1 := va_K.moved hvm.symm hK1
  obtain ⟨hP, hD⟩ := va_join (wr := []) (w1 := [(zo1iri bo mdc9_10 aEl (nI sz_9_11)), (zaR aEl cEl 10 fEl9_12)]) hP hD [0, 1] [] rfl rfl (by decide) (by decide) hk1 hFc hP1 hD1
  have hK := (hK.sub (tys' := []) [] rfl).app hK1
  generalize H1 = H at hP hS ⊢
  have hP : va_P (dC, dI) vwCl [(zo1iri bo mdc9_10 aEl (nI sz_9_11)), (zaR aEl cEl 10 fEl9_12)] H := hP
  have hD : va_D A [(zo1iri bo mdc9_10 aEl (nI sz_9_11)), (zaR aEl cEl 10 fEl9_12)] := hD
  have hK : va_K (dC, dI) vwCl [(cEl, .object "java/lang/Object")] s := hK
  obtain ⟨er_13, e_14, hL_15⟩ := hw_9
  obtain rfl := (e_14).symm
  subst er_13
  refine lv_bipush (v := 7) hx hb dX1_doLooks_12 (by decide) ?_
  refine lv_ixor hx hb dX1_doLooks_14 ?_
  rw [hQ]
  have hP9 := hP.sub (ws' := [(zo1iri bo mdc9_10 aEl (nI ((sz_ + 1) + 4))), (zaR aEl cEl 10 fEl9_12)]) [0, 1] rfl
  have hD9 := hD.sub (ws' := [(zo1iri bo mdc9_10 aEl (nI ((sz_ + 1) + 4))), (zaR aEl cEl 10 fEl9_12)]) [0, 1] (by decide) rfl
  have hK9 := hK.sub (tys' := [(cEl, .object "java/lang/Object")]) [0] rfl
  exact W.iret (v := ((((x + nI i0) - sv) + sv) * 2) ^^^ 7) hx hb hr (fun tQ htQ hWQ => ⟨⟨(((((x + nI i0) - sv) + sv) * 2) ^^^ 7), (mdc9_10, ((sz_ + 1) + 4), fEl9_12), rfl, ⟨rfl, by omega, by have h9 := okL_as (hL_15); exact h9⟩, by rw [htQ]; exact hP9, va_K.moved hWQ.alike hK9, hD9⟩, hS.F htQ⟩) hS.2.2 dX1_doLooks_15

set_option maxHeartbeats 4000000 in
set_option maxRecDepth 100000 in
theorem c_X1_doLooks_X7_0 (l : Launch) (dC : Nat → ClassId) (dI : Nat → Nat → Nat) (ad : Nat → Nat) (cB bS : Nat)    (bo : Nat) (i0 : Nat) (sk : Int32) (sv : Int32) (scl : Int32) (x : Int32) (a0 : Nat) (mdc : Int32) (sz : Nat) : Met l yX1_doLooks wsX1_doLooks ({ frames := 7, cells := 1, slots := 10, locals := 153 } : Room) (va_Pc [.ref a0, .int x, .ref bo] (fun U => U.heap.size = sz ∧ va_P (dC, dI) vwCl [(zo1iri bo mdc bS 0)] U.heap ∧ va_K (dC, dI) vwCl [] U ∧ va_D (fun _ => True) [(zo1iri bo mdc bS 0)] ∧ Gi ad cB bS (va_A [(zo1iri bo mdc bS 0)] sz) U ∧ Gb (va_A [(zo1iri bo mdc bS 0)] sz) U ∧ Gw (va_A [(zo1iri bo mdc bS 0)] sz) U ∧ Fz dC dI [(zo9iiii a0 sk (nI i0) sv scl)] [] (va_A [(zo1iri bo mdc bS 0)] sz) U)) (va_Qi (fun (r : Int32) (u : (Int32) × (Nat) × (ClassId) × (Nat) × (Nat → Option Nat)) => match u with | (mdc9, aEl9, cEl9, sz_9, fEl9) => r = ((((x + nI i0) - sv) + sv) * 2) ^^^ 7 ∧ sz_9 = 5 ∧ okL ad fEl9 sz_9 [31, 3, 61, 2, 1]) (fun (u : (Int32) × (Nat) × (ClassId) × (Nat) × (Nat → Option Nat)) (t : State) => match u with | (mdc9, aEl9, cEl9, sz_9, fEl9) => va_P (dC, dI) vwCl [(zo1iri bo mdc9 aEl9 (nI sz_9)), (zaR aEl9 cEl9 10 fEl9)] t.heap ∧ va_K (dC, dI) vwCl [(cEl9, .object "java/lang/Object")] t ∧ va_D (va_A [(zo1iri bo mdc bS 0)] sz) [(zo1iri bo mdc9 aEl9 (nI sz_9)), (zaR aEl9 cEl9 10 fEl9)]) (va_A [(zo1iri bo mdc bS 0)] sz)) 1 10 (va_A [(zo1iri bo mdc bS 0)] sz) := by
  refine met_ofQ (cc := cX1_doLooks) (maxL := 3) (ret := (some .int)) (by decide) rfl ?_
  intro p e s m args below meth c s₁ Q B hml hv hQ
  obtain ⟨rfl, hsz, hP, hK, hD0, hI_, hB_, hW_, hZ⟩ := hv
  have hx := B.exec
  have hb := B.bytes
  have hr := B.returns
  have hts := atoms_spec (ws := wsX1_doLooks) B.pre
  have hown : s.vm.findClass RX1 = some m.cls := findClass_of_methodNamed B.named
  have hlocks := B.notSynchronized
  subst hsz
  have hD := hD0.self (sz := s.heap.size)
  generalize hAe : va_A [(zo1iri bo mdc bS 0)] s.heap.size = A at hD hQ hI_ hB_ hW_ hZ ⊢
  have hA : ∀ q : Nat, s.heap.size ≤ q → A q := fun q h => by rw [← hAe]; exact Or.inr h
  have hS : va_S A s.heap s.heap [] := va_S.rf
  have hl := lv_entry [.ref a0, .int x, .ref bo] (n := 3) (Nat.le_of_ble_eq_true rfl)
  rw [lg_entry_eq]
  generalize (lg_sl [.ref a0, .int x, .ref bo] ++ List.replicate (3 - (lg_sl [.ref a0, .int x, .ref bo]).length) Slot.unset).toArray = ls at hl ⊢
  generalize hag : ([.ref a0, .int x, .ref bo] : List Value).toArray = args at hts hQ ⊢
  have hl : lv_has ls 3 [(0, .ref a0), (1, .int x), (2, .ref bo)] := hl
  obtain ⟨H, hH⟩ : ∃ H : Heap, H = s.heap := ⟨_, rfl⟩
  rw [← hH] at hP
  rw [← hH]
  have hS : va_S A s.heap H [] := by rw [hH]; exact hS
  obtain ⟨locs, hlo⟩ : ∃ L : List Loc, L = [] := ⟨_, rfl⟩
  rw [← hlo] at hS
  rw [← hlo]
  clear hH hlo
  refine lv_bipush (v := 31) hx hb dX1_doLooks_0 (by decide) ?_
  refine lv_aload_n hx hb dX1_doLooks_2 rfl (lv_at hl 2 rfl) ?_
  have hPc := hP.sub (ws' := [(zo1iri bo mdc bS 0)]) [0] rfl
  have hDc := hD.sub (ws' := [(zo1iri bo mdc bS 0)]) [0] (by decide) rfl
  have hKc := hK.sub (tys' := []) [] rfl
  have hFc := va_free (wc := [(zo1iri bo mdc bS 0)]) hD hS hA [0] rfl
  refine va_callv (va_runU2 (As := [.int 31, .ref bo]) (rest := []) ⟨hx, hb, hml, hown, hts⟩ (c_begin0 l dC dI ad cB bS bo mdc 31 H.size (by omega)) (u2_cw (x := xb1) 2 hB_ inb1 rfl rfl rfl rfl rfl (by decide +kernel) ⟨Nat.le_of_ble_eq_true rfl, Nat.le_of_ble_eq_true rfl⟩) ⟨fun a U g mk q => by obtain ⟨q0, q1, qP, qK, qD, qhI_⟩ := q; exact ⟨q0, mvz g mk a q1, mvP g mk a qP, mvK g mk a qK, qD, qhI_.mv g mk a⟩, fun U hU hW => ⟨rfl, by rw [hU], by rw [hU]; exact hPc, va_K.moved hW.alike hKc, hDc.weaken (fun _ _ _ _ => trivial), hI_.call hS hU hW (fun q h => hFc q h)⟩⟩ rfl rfl hl.1 rfl (lv_room (Nat.le_of_ble_eq_true rfl)) dX1_doLooks_3 ⟨Nat.le_of_ble_eq_true rfl, Nat.le_of_ble_eq_true rfl⟩) hS (fun q _ h => hFc q h) hFc (fun u tC H1 locs htC hvm hw_2 hB hz1 hk1 hS => ?_)
  obtain ⟨mdc9_3, aEl9_4, cEl9_5, sz_9_6, fEl9_7⟩ := u
  try dsimp only at hw_2 hB
  obtain ⟨hP1, hK1, hD1⟩ := hB
  rw [htC] at hP1
  have hK1 := va_K.moved hvm.symm hK1
  obtain ⟨hP, hD⟩ := va_join (wr := []) (w1 := [(zo1iri bo mdc9_3 aEl9_4 (nI sz_9_6)), (zaR aEl9_4 cEl9_5 10 fEl9_7)]) hP hD [0] [] rfl rfl (by decide) (by decide) hk1 hFc hP1 hD1
  have hK := (hK.sub (tys' := []) [] rfl).app hK1
  generalize H1 = H at hP hS ⊢
  have hP : va_P (dC, dI) vwCl [(zo1iri bo mdc9_3 aEl9_4 (nI sz_9_6)), (zaR aEl9_4 cEl9_5 10 fEl9_7)] H := hP
  have hD : va_D A [(zo1iri bo mdc9_3 aEl9_4 (nI sz_9_6)), (zaR aEl9_4 cEl9_5 10 fEl9_7)] := hD
  have hK : va_K (dC, dI) vwCl [(cEl9_5, .object "java/lang/Object")] s := hK
  refine W.widen (k := 1) (n := 10) (by omega) (by omega) ?_
  obtain ⟨e_8, hL_9⟩ := hw_2
  obtain rfl := (e_8).symm
  refine lv_aload_n hx hb dX1_doLooks_6 rfl (lv_at hl 0 rfl) ?_
  refine lv_iload_n hx hb dX1_doLooks_7 rfl (lv_at hl 1 rfl) ?_
  refine lv_aload_n hx hb dX1_doLooks_8 rfl (lv_at hl 2 rfl) ?_
  have hPc := hP.sub (ws' := [(zo1iri bo mdc9_3 aEl9_4 (nI 1)), (zaR aEl9_4 cEl9_5 10 fEl9_7)]) [0, 1] rfl
  have hDc := hD.sub (ws' := [(zo1iri bo mdc9_3 aEl9_4 (nI 1)), (zaR aEl9_4 cEl9_5 10 fEl9_7)]) [0, 1] (by decide) rfl
  have hKc := hK.sub (tys' := [(cEl9_5, .object "java/lang/Object")]) [0] rfl
  have hFc := va_free (wc := [(zo1iri bo mdc9_3 aEl9_4 (nI 1)), (zaR aEl9_4 cEl9_5 10 fEl9_7)]) hD hS hA [0, 1] rfl
  refine va_calli (va_runSU (hZ.2.1.1 9 (RX7, TX7, 4) rfl).2 (As := [.int x, .ref bo]) (rest := []) ⟨hx, hb, hml, hown, hts⟩ (c_X3_doLooks_X7_1 l dC dI ad cB bS    bo aEl9_4 i0 sk sv scl x cEl9_5 fEl9_7 a0 1 mdc9_3 ([31]) H.size (by omega) (hL_9)) (va_cwSU 2 hts gX1_doLooks_X3_doLooks_s13 rfl rfl rfl (by decide +kernel) ⟨Nat.le_of_ble_eq_true rfl, Nat.le_of_ble_eq_true rfl⟩) ⟨fun a U g mk q => by obtain ⟨q0, q1, qP, qK, qD, qhI_, qhB_, qhW_, qhZ⟩ := q; exact ⟨q0, mvz g mk a q1, mvP g mk a qP, mvK g mk a qK, qD, qhI_.mv g mk a, qhB_.mv g mk a, qhW_.mv g mk a, qhZ.mv g mk a⟩, va_recv hZ.2.1 (hZ.P hS) (ci := 9) (q := (RX7, TX7, 4)) (q0 := 0) rfl rfl, fun U hU hW => ⟨rfl, by rw [hU], by rw [hU]; exact hPc, va_K.moved hW.alike hKc, hDc.weaken (fun _ _ _ _ => trivial), hI_.call hS hU hW (fun q h => hFc q h), hB_.call hS hU hW (fun q h => hFc q h), hW_.call hS hU hW (fun q h => hFc q h), (hZ.sub [0] [] rfl rfl).call hS hU hW (fun q h => hFc q h)⟩⟩ rfl rfl hl.1 rfl (lv_room (Nat.le_of_ble_eq_true rfl)) dX1_doLooks_9 ⟨Nat.le_of_ble_eq_true rfl, Nat.le_of_ble_eq_true rfl⟩) hS (fun q _ h => hFc q h) hFc (fun r_10 u tC H1 locs htC hvm hw_11 hB hz1 hk1 hS => ?_)
  obtain ⟨mdc9_12, sz_9_13, fEl9_14⟩ := u
  try dsimp only at hw_11 hB
  obtain ⟨hP1, hK1, hD1⟩ := hB
  rw [htC] at hP1
  have hK1 := va_K.moved hvm.symm hK1
  obtain ⟨hP, hD⟩ := va_join (wr := []) (w1 := [(zo1iri bo mdc9_12 aEl9_4 (nI sz_9_13)), (zaR aEl9_4 cEl9_5 10 fEl9_14)]) hP hD [0, 1] [] rfl rfl (by decide) (by decide) hk1 hFc hP1 hD1
  have hK := (hK.sub (tys' := []) [] rfl).app hK1
  generalize H1 = H at hP hS ⊢
  have hP : va_P (dC, dI) vwCl [(zo1iri bo mdc9_12 aEl9_4 (nI sz_9_13)), (zaR aEl9_4 cEl9_5 10 fEl9_14)] H := hP
  have hD : va_D A [(zo1iri bo mdc9_12 aEl9_4 (nI sz_9_13)), (zaR aEl9_4 cEl9_5 10 fEl9_14)] := hD
  have hK : va_K (dC, dI) vwCl [(cEl9_5, .object "java/lang/Object")] s := hK
  obtain ⟨er_15, e_16, hL_17⟩ := hw_11
  obtain rfl := (e_16).symm
  subst er_15
  refine lv_bipush (v := 7) hx hb dX1_doLooks_12 (by decide) ?_
  refine lv_ixor hx hb dX1_doLooks_14 ?_
  rw [hQ]
  have hP9 := hP.sub (ws' := [(zo1iri bo mdc9_12 aEl9_4 (nI (1 + 4))), (zaR aEl9_4 cEl9_5 10 fEl9_14)]) [0, 1] rfl
  have hD9 := hD.sub (ws' := [(zo1iri bo mdc9_12 aEl9_4 (nI (1 + 4))), (zaR aEl9_4 cEl9_5 10 fEl9_14)]) [0, 1] (by decide) rfl
  have hK9 := hK.sub (tys' := [(cEl9_5, .object "java/lang/Object")]) [0] rfl
  refine W.widen (k := 1) (n := 10) (by omega) (by omega) ?_
  exact W.iret (v := ((((x + nI i0) - sv) + sv) * 2) ^^^ 7) hx hb hr (fun tQ htQ hWQ => ⟨⟨(((((x + nI i0) - sv) + sv) * 2) ^^^ 7), (mdc9_12, aEl9_4, cEl9_5, (1 + 4), fEl9_14), rfl, ⟨rfl, by omega, hL_17⟩, by rw [htQ]; exact hP9, va_K.moved hWQ.alike hK9, hD9⟩, hS.F htQ⟩) hS.2.2 dX1_doLooks_15
end mg16b
section mg16b


/-- an array over arrays is known to the machine -/
noncomputable def va_AOA (t : FieldType) (U : State) : Prop := (Cond.arrayOver (.array t)).before #[] U = true
theorem va_AOA.use {t : FieldType} {A : Array Value} {U : State} (h : va_AOA t U) : (Cond.arrayOver (.array t)).before A U = true := h

theorem va_AOA.moved {t : FieldType} {u U : State} (hvm : u.vm.Alike U.vm) (h : va_AOA t u) : va_AOA t U := over_moved hvm h


/-! ===== BEGIN new T[n][m]: the outer array a place, the inner ones among the pooled ===== -/
/-- f, but v at every address of l -/
noncomputable def vr_up {α : Type} (f : Nat → α) (l : List Nat) (v : α) : Nat → α := fun a => if a ∈ l then v else f a
theorem vr_up_in {α : Type} {f : Nat → α} {l : List Nat} {v : α} {a : Nat} (h : a ∈ l) : vr_up f l v a = v := if_pos h
theorem vr_up_ne {α : Type} {f : Nat → α} {l : List Nat} {v : α} {a : Nat} (h : a ∉ l) : vr_up f l v a = f a := if_neg h
theorem vr_rows {L l : List Nat} {f : Nat → va_E} {e : va_E} (h : ∀ a, a ∈ l → a ∉ L) : va_pl L f ++ l.map (fun a => (a, e)) = va_pl (L ++ l) (vr_up f l e) := by
  unfold va_pl
  rw [List.map_append]
  congr 1
  · apply List.map_congr_left
    intro a ha
    rw [vr_up_ne (fun q => h a q ha)]
  · apply List.map_congr_left
    intro a ha
    rw [vr_up_in ha]
theorem vr_lay {X rows : va_W} {x : Nat × va_E} {pl : va_W} {D : va_G} {cl : List vw_C} {H : Heap} (hP : va_P D cl (((X ++ pl) ++ [x]) ++ rows) H) : va_P D cl ((X ++ [x]) ++ (pl ++ rows)) H := by
  rw [List.append_assoc (X ++ pl)] at hP
  have h := va_P.swap hP
  rw [← List.append_assoc X] at h
  have h2 := va_P.swap h
  rw [List.append_assoc (X ++ [x])] at h2
  exact h2
theorem vr_layD {X rows : va_W} {x : Nat × va_E} {pl : va_W} {A : Nat → Prop} (hD : va_D A (((X ++ pl) ++ [x]) ++ rows)) : va_D A ((X ++ [x]) ++ (pl ++ rows)) := by
  rw [List.append_assoc (X ++ pl)] at hD
  have h := va_D.swap hD
  rw [← List.append_assoc X] at h
  have h2 := va_D.swap h
  rw [List.append_assoc (X ++ [x])] at h2
  exact h2
theorem vr_outer (c : ClassId) (N h0 : Nat) : ∀ i : Nat, Jvm.Free.Multi.outerC c N h0 i = arrV c N (fun j => va_rf (if j < i then some (h0 + 1 + j) else none))
  | 0 => by
    show ({ cls := c, slots := Array.replicate N .null, vm := .none } : Cell) = _
    rw [arrV_new]
    refine congrArg (arrV c N) (funext fun j => ?_)
    simp [va_rf]
  | i + 1 => by
    show (Jvm.Free.Multi.outerC c N h0 i).setSlot i (.ref (h0 + 1 + i)) = _
    rw [vr_outer c N h0 i, arrV_store]
    refine congrArg (arrV c N) (funext fun j => ?_)
    by_cases e : j = i
    · subst e
      simp [updV, va_rf]
    · by_cases h : j < i
      · simp [updV, e, h, Nat.lt_succ_of_lt h]
      · simp [updV, e, h, show ¬ j < i + 1 by omega]
section VGM
variable {p : Program} {l : Launch} {e : Env} {R : Room} {s : State} {m : MethodId} {args : Array Value} {below : List Frame} {meth : Method} {c : Code} {H : Heap} {locs : List Loc} {cells slots : Nat} {Q : State → Prop}
variable {cc : ByteArray} {pc : Nat} {ls : Array Slot} {rest : List Value} {D : va_G} {cl : List vw_C} {A : Nat → Prop} {a : Nat} {tys : List (ClassId × FieldType)} {ws : va_W} {H0 : Heap}
theorem va_mna {X : va_W} {L : List Nat} {f : Nat → va_E} {cc : ByteArray} (hexec : p.tables.exec = Jvm.exec) (hb : c.code = cc) {own : String} {index : Nat} {ty : FieldType} {cy : ClassId} (hown : s.vm.findClass own = some m.cls) (hclink : (Cond.classLink own index ("[" ++ (FieldType.array ty).toString)).before args s = true) (hover : va_AOA ty s) (harr : (Cond.arrayClass ty).before args s = true) (hcy : s.vm.findClass (FieldType.array ty).toString = some cy)
    (hK : va_K D cl tys s) (hP : va_P D cl (X ++ va_pl L f) H) (hD : va_D A (X ++ va_pl L f)) (hS : va_S A H0 H locs) (hA : ∀ q, H0.size ≤ q → A q) {n k : Int32} {N' K' : Nat} {z : vp_A} (hn : ¬ n < 0) (hk : ¬ k < 0) (hN : n.toNatClampNeg = N') (hM : k.toNatClampNeg = K')
    (hb1 : N' * 4 ≤ 536870912) (hb2 : K' * componentBytes ty ≤ 536870912) (hb3 : K' ≤ 536870912) (hdf : fits ty (defaultValue ty) = true) (hdd : (defaultValue ty).isDefault = true) (hcells : cells + (1 + N') ≤ R.cells) (hslots : slots + (N' + N' * K') ≤ R.slots) (hz : ∀ c : ClassId, Jvm.Free.Multi.innerC c K' (defaultValue ty) = vp_cell c z) (hdg : decode cc pc = .ok (.multianewarray index 2, 4))
    (kk : ∀ (q : Nat) (r : Nat → Nat) (cA : ClassId) (H1 : Heap), (∀ i j : Nat, i < N' → j < N' → r i = r j → i = j) → (∀ i : Nat, i < N' → r i ∉ L) → va_K D cl (tys ++ [(cA, .array ty)]) s →
      va_P D cl ((X ++ [(zaR q cA N' (fun i => if i < N' then some (r i) else none))]) ++ va_pl (L ++ (List.range N').map r) (vr_up f ((List.range N').map r) (.inl (cy, z)))) H1 → va_D A ((X ++ [(zaR q cA N' (fun i => if i < N' then some (r i) else none))]) ++ va_pl (L ++ (List.range N').map r) (vr_up f ((List.range N').map r) (.inl (cy, z)))) → va_S A H0 H1 locs →
      W p l e R s m args below meth c H1 locs (cells + 1 + N') (slots + N' + N' * K') Q (F0 m (pc + 4) ls (.ref q :: rest))) : W p l e R s m args below meth c H locs cells slots Q (F0 m pc ls (.int k :: .int n :: rest)) := by
  subst hN
  subst hM
  intro T hT Xs
  obtain ⟨vm₁, cA, comp, -, fA, fC, hO, -, X', step⟩ := Xs.multianewarray2F hexec hown hclink (va_AOA.use hover) harr (g := F0 m pc ls (.int k :: .int n :: rest)) rfl (by rw [hb]; exact hdg) rfl hn hk hb1 hb2 hb3 hdf hdd hcells hslots
  have ec : some cy = some comp := hcy.symm.trans fC
  cases ec
  generalize hF : Jvm.Free.Multi.fill (T.setVm vm₁) cA cy n.toNatClampNeg k.toNatClampNeg (defaultValue ty) n.toNatClampNeg = F at X' step
  have hTh : (T.setVm vm₁).heap = H := hT
  obtain ⟨f1, f2, -, -⟩ := Jvm.Free.Multi.fill_facts (T.setVm vm₁) cA cy n.toNatClampNeg k.toNatClampNeg (defaultValue ty) n.toNatClampNeg
  rw [hF, hTh] at f1 f2
  have hold : ∀ x : Nat, x < H.size → F.heap[x]? = H[x]? := fun x hx => by
    have := Jvm.Free.Multi.fill_old (T.setVm vm₁) cA cy n.toNatClampNeg k.toNatClampNeg (defaultValue ty) (a := x) (by rw [hTh]; exact hx) n.toNatClampNeg
    rw [hF, hTh] at this
    exact this
  have hrow : ∀ j : Nat, j < n.toNatClampNeg → F.heap[H.size + 1 + j]? = some (vp_cell cy z) := fun j hj => by
    have := Jvm.Free.Multi.fill_inner (T.setVm vm₁) cA cy n.toNatClampNeg k.toNatClampNeg (defaultValue ty) n.toNatClampNeg j hj
    rw [hF, hTh, hz] at this
    exact this
  have hout : Jvm.Free.Multi.outerC cA n.toNatClampNeg H.size n.toNatClampNeg = vp_cell cA (n.toNatClampNeg, .inr (.inr (.inr (.inr (fun i => if i < n.toNatClampNeg then some (H.size + 1 + i) else none))))) := by
    rw [vp_cell_q]
    exact vr_outer cA n.toNatClampNeg H.size n.toNatClampNeg
  rw [hout] at f2
  have hlt : ∀ a, a ∈ L → a < H.size := fun a ha => by
    obtain ⟨k9, hk9⟩ := va_pl_get (X := X) (f := f) ha
    exact (hP k9 _ hk9).lt
  have hnl : ∀ i : Nat, i < n.toNatClampNeg → H.size + 1 + i ∉ L := fun i _ h => by
    have := hlt _ h
    omega
  have hnm : ∀ a, a ∈ (List.range n.toNatClampNeg).map (fun i => H.size + 1 + i) → a ∉ L := fun a ha h => by
    obtain ⟨i, -, rfl⟩ := List.mem_map.mp ha
    have := hlt _ h
    omega
  have hP0 : va_P D cl (X ++ va_pl L f) F.heap := hP.kept (fun k9 x hx => hold x.1 ((hP k9 x hx).lt))
  have hP1 : va_P D cl ((X ++ va_pl L f) ++ [(zaR H.size cA n.toNatClampNeg (fun i => if i < n.toNatClampNeg then some (H.size + 1 + i) else none))]) F.heap := hP0.app (fun k9 x hx => by
    have h0 : k9 < 1 := (List.getElem?_eq_some_iff.mp hx).1
    rw [show k9 = 0 by omega] at hx
    cases hx
    exact f2)
  have hP2 : va_P D cl (((X ++ va_pl L f) ++ [(zaR H.size cA n.toNatClampNeg (fun i => if i < n.toNatClampNeg then some (H.size + 1 + i) else none))]) ++ ((List.range n.toNatClampNeg).map (fun i => H.size + 1 + i)).map (fun a => (a, .inl (cy, z)))) F.heap := hP1.app (fun k9 x hx => by
    obtain ⟨a, ha, rfl⟩ := List.mem_map.mp (List.mem_of_getElem? hx)
    obtain ⟨i, hi, rfl⟩ := List.mem_map.mp ha
    exact hrow i (List.mem_range.mp hi))
  have hD2 : va_D A (((X ++ va_pl L f) ++ [(zaR H.size cA n.toNatClampNeg (fun i => if i < n.toNatClampNeg then some (H.size + 1 + i) else none))]) ++ ((List.range n.toNatClampNeg).map (fun i => H.size + 1 + i)).map (fun a => (a, .inl (cy, z)))) := by
    have hD1 := hD.push (e := .inl (cA, n.toNatClampNeg, .inr (.inr (.inr (.inr (fun i => if i < n.toNatClampNeg then some (H.size + 1 + i) else none)))))) hP rfl (hA _ hS.1)
    generalize hW1 : (X ++ va_pl L f) ++ [(zaR H.size cA n.toNatClampNeg (fun i => if i < n.toNatClampNeg then some (H.size + 1 + i) else none))] = W1 at hD1 hP1 ⊢
    have hle : ∀ (k9 : Nat) (x : Nat × va_E), W1[k9]? = some x → x.1 ≤ H.size := fun k9 x hx => by
      rw [← hW1] at hx
      by_cases hl : k9 < (X ++ va_pl L f).length
      · rw [List.getElem?_append_left hl] at hx
        exact Nat.le_of_lt ((hP k9 x hx).lt)
      · rw [List.getElem?_append_right (by omega)] at hx
        have h0 : k9 - (X ++ va_pl L f).length < 1 := (List.getElem?_eq_some_iff.mp hx).1
        rw [show k9 - (X ++ va_pl L f).length = 0 by omega] at hx
        cases hx
        exact Nat.le_refl _
    have hr : ∀ (k9 : Nat) (x : Nat × va_E), (((List.range n.toNatClampNeg).map (fun i => H.size + 1 + i)).map (fun a => ((a, .inl (cy, z)) : Nat × va_E)))[k9]? = some x → x.1 = H.size + 1 + k9 := fun k9 x hx => by
      rw [List.getElem?_map, List.getElem?_map] at hx
      by_cases h9 : k9 < n.toNatClampNeg
      · rw [List.getElem?_range h9] at hx
        cases hx
        rfl
      · have hn0 : (List.range n.toNatClampNeg)[k9]? = none := List.getElem?_eq_none (by rw [List.length_range]; omega)
        rw [hn0] at hx
        cases hx
    refine ⟨fun i j x y hi hj hxy => ?_, fun k9 x hx => ?_⟩
    · by_cases h1 : i < W1.length <;> by_cases h2 : j < W1.length
      · rw [List.getElem?_append_left h1] at hi
        rw [List.getElem?_append_left h2] at hj
        exact hD1.1 i j x y hi hj hxy
      · rw [List.getElem?_append_left h1] at hi
        rw [List.getElem?_append_right (by omega)] at hj
        have := hle _ _ hi
        have := hr _ _ hj
        omega
      · rw [List.getElem?_append_right (by omega)] at hi
        rw [List.getElem?_append_left h2] at hj
        have := hle _ _ hj
        have := hr _ _ hi
        omega
      · rw [List.getElem?_append_right (by omega)] at hi hj
        have := hr _ _ hi
        have := hr _ _ hj
        omega
    · by_cases h1 : k9 < W1.length
      · rw [List.getElem?_append_left h1] at hx
        exact hD1.2 k9 x hx
      · rw [List.getElem?_append_right (by omega)] at hx
        have := hr _ _ hx
        exact hA _ (by have := hS.1; omega)
  have hAr : ArrOfT s cA (.array ty) := fun N9 z9 => by
    obtain ⟨-, k9, hk9, cm9, hkk9⟩ := (hO 0 0 0).1
    exact ⟨(fun q hq => by cases hq), k9, hk9, cm9, hkk9⟩
  have hK2 : va_K D cl (tys ++ [(cA, .array ty)]) s := ⟨hK.1, fun k9 x hx => by
    by_cases hl : k9 < tys.length
    · rw [List.getElem?_append_left hl] at hx
      exact hK.2 k9 x hx
    · rw [List.getElem?_append_right (by omega)] at hx
      have h0 : k9 - tys.length < 1 := (List.getElem?_eq_some_iff.mp hx).1
      rw [show k9 - tys.length = 0 by omega] at hx
      cases hx
      exact ⟨hAr, fA⟩⟩
  obtain ⟨t, a1, b1⟩ := kk H.size (fun i => H.size + 1 + i) cA F.heap (fun i j _ _ h => by have h9 : H.size + 1 + i = H.size + 1 + j := h; omega) hnl hK2 (by rw [← vr_rows hnm]; exact vr_lay hP2) (by rw [← vr_rows hnm]; exact vr_layD hD2) ⟨by rw [f1]; have := hS.1; omega, fun x h1 h2 => (hold x (Nat.lt_of_lt_of_le h1 hS.1)).trans (hS.2.1 x h1 h2), hS.2.2⟩ F rfl X'
  refine ⟨t, step t ?_, b1⟩
  have e : T.heap.size = H.size := by rw [hT]
  rw [e]
  exact a1
end VGM
/-! ===== END ===== -/


theorem arr_known {args : Array Value} {s : State} {ty : FieldType} (h : (Cond.arrayClass ty).before args s = true) : ∃ c : ClassId, s.vm.findClass ("[" ++ ty.toString) = some c ∧ ArrOfT s c ty := by
  obtain ⟨c, k, comp, h1, h2, h3⟩ := Cond.arrayClass_spec h
  exact ⟨c, h1, fun n z => ⟨(fun q hq => by cases hq), k, h2, comp, h3⟩⟩
theorem mna_rows {f : Nat → va_E} {r : Nat → Nat} {e : va_E} {n : Nat} : va_pl ([] ++ (List.range n).map r) (vr_up f ((List.range n).map r) e) = (List.range n).map (fun i => (r i, e)) := by
  unfold va_pl
  rw [List.nil_append, List.map_map]
  apply List.map_congr_left
  intro i hi
  show (r i, vr_up f _ e (r i)) = (r i, e)
  rw [vr_up_in (List.mem_map.mpr ⟨i, hi, rfl⟩)]
theorem K_rep {D : va_G} {cl : List vw_C} {tys : List (ClassId × FieldType)} {s : State} {c : ClassId} {ty : FieldType} (hK : va_K D cl tys s) (h1 : ArrOfT s c ty) (h2 : va_RA s c ty) (n : Nat) : va_K D cl (List.replicate n (c, ty)) s := ⟨hK.1, fun k q h => by
  have e := List.eq_of_mem_replicate (List.mem_of_getElem? h)
  rw [e]
  exact ⟨h1, h2⟩⟩
noncomputable def castW : List Cond := [.castable RX4 "MistHeaps$Heap", .castable RX6 "MistHeaps$Heap", .castable RX1 "MistHeaps$Heap", .castable RX10 "MistHeaps$Heap", .castable RX9 "MistHeaps$Heap", .castable RX7 "MistHeaps$Heap"]
theorem castW_tab : ∀ w ∈ castW, w.onTables = true := by decide +kernel
/-- what the constructors, and a heap's being set, take along -/
noncomputable def Gc (bS : Nat) (A : Nat → Prop) (U : State) : Prop := va_AO "MistHeaps$Heap" U ∧ va_AOA .long U ∧ va_AOA .int U ∧ (∀ w ∈ castW, va_Nw w U) ∧ va_Z "java/util/ArrayList" "DEFAULTCAPACITY_EMPTY_ELEMENTDATA" "[Ljava/lang/Object;" (.ref bS) A U U.heap
theorem castW_warm {s U : State} (hW : s.WarmedH U.vm) (h : ∀ w ∈ castW, va_Nw w s) : ∀ w ∈ castW, va_Nw w U := by
  have k : ∀ w ∈ castW, ∃ (a b : String), w = .castable a b := by
    intro w hw
    simp only [castW, List.mem_cons, List.not_mem_nil, or_false] at hw
    rcases hw with rfl | rfl | rfl | rfl | rfl | rfl <;> exact ⟨_, _, rfl⟩
  intro w hw
  obtain ⟨a, b, rfl⟩ := k w hw
  exact va_Nw.warmC hW (h _ hw)
theorem Gc.same {bS : Nat} {A : Nat → Prop} {u U : State} (h : Gc bS A u) (hvm : u.vm = U.vm) (hh : U.heap = u.heap) : Gc bS A U := by
  obtain ⟨h1, h2, h3, h4, h5⟩ := h
  have hv : u.vm.Alike U.vm := by rw [hvm]; exact Vm.Alike.refl _
  refine ⟨h1.moved hv, h2.moved hv, h3.moved hv, fun w hw => va_Nw.same (castW_tab w hw) hvm (h4 w hw), ?_⟩
  rw [hh]; exact h5.moved hv
theorem Gc.mv {bS : Nat} {A : Nat → Prop} {U : State} (g : _) (mk : _) (a : _) (h : Gc bS A U) : Gc bS A (U.calling g mk a) := h.same rfl rfl
theorem Gc.call {bS : Nat} {A B : Nat → Prop} {s U : State} {H : Heap} {locs : List Loc} (h : Gc bS A s) (hS : va_S A s.heap H locs) (hU : U.heap = H) (hW : s.WarmedH U.vm) (hB : ∀ q, B q → A q) : Gc bS B U := by
  obtain ⟨h1, h2, h3, h4, h5⟩ := h
  refine ⟨h1.moved hW.alike, h2.moved hW.alike, h3.moved hW.alike, castW_warm hW h4, ?_⟩
  rw [hU]; exact ((h5.kept (H1 := H) hS.2.1).moved hW.alike).narrow hB
theorem Gc.castable {bS : Nat} {A : Nat → Prop} {U : State} (h : Gc bS A U) (w : Cond) (hw : w ∈ castW) : va_Nw w U := h.2.2.2.1 w hw

/-- the numbers of a new reference -/
noncomputable def s0 : Nat → Int32 := upd (fun _ => 0) 5 (-1)
theorem Gc.callF {bS : Nat} {A : Nat → Prop} {s U : State} {H : Heap} {locs : List Loc} (h : Gc bS A s) (hS : va_S A s.heap H locs) (hU : U.heap = H) (hW : s.WarmedH U.vm) : Gc bS (fun _ => False) U := h.call hS hU hW (fun _ q => q.elim)
theorem up_cp {f g : Nat → Option Nat} {i : Nat} {v : Option Nat} (h : ∀ k, k < i → g k = f k) (hv : f i = v) : ∀ k, k < i + 1 → va_up g i v k = f k := by
  intro k hk
  by_cases q : k = i
  · subst q; simp [va_up, hv]
  · simp only [va_up, if_neg q]; exact h k (by omega)
theorem cpy0 {α : Type} {f g : Nat → α} {n : Nat} : ∀ k, k < n → va_cpy f g 0 0 n k = f k := by
  intro k hk
  simp only [va_cpy]
  rw [if_pos (by omega)]
  congr 1
  omega
section
variable {p : Program} {l : Launch} {e : Env} {R : Room} {s : State} {m : MethodId} {args : Array Value} {below : List Frame} {meth : Method} {c : Code} {H : Heap} {locs : List Loc} {cells slots : Nat} {Q : State → Prop}
variable {cc : ByteArray} {pc : Nat} {ls : Array Slot} {rest : List Value} {A : Nat → Prop} {a : Nat} {tys : List (ClassId × FieldType)} {ws : va_W} {dC : Nat → ClassId} {dI : Nat → Nat → Nat}
/-- a heap that stands is stored in a row of heaps -/
theorem va_astH (hexec : p.tables.exec = Jvm.exec) (hb : c.code = cc) (hK : va_K (dC, dI) vwCl tys s) (hP : va_P (dC, dI) vwCl ws H) (hD : va_D A ws) (hS : va_S A s.heap H locs) (q0 t0 : Nat) {cA : ClassId} {n v ci bS : Nat} {vs : List Value} {f : Nat → Option Nat} (ha : ws[q0]? = some (zaR a cA n f)) (ht : tys[t0]? = some (cA, .object "MistHeaps$Heap")) (hC : Gc bS A s) (hci : hpK ci) (hF : Fz dC dI [(v, .inr (ci, vs))] [] A s) {i : Int32} (hin : vp_in i n) (hdg : decode cc pc = .ok (.aastore, 1))
    (kk : ∀ (H1 : Heap) (locs1 : List Loc), va_P (dC, dI) vwCl (ws.set q0 (zaR a cA n (va_up f i.toNatClampNeg (some v)))) H1 → va_D A (ws.set q0 (zaR a cA n (va_up f i.toNatClampNeg (some v)))) → va_S A s.heap H1 locs1 → W p l e R s m args below meth c H1 locs1 cells slots Q (F0 m (pc + 1) ls rest)) : W p l e R s m args below meth c H locs cells slots Q (F0 m pc ls (.ref v :: .int i :: .ref a :: rest)) := by
  rcases hci with rfl | rfl | rfl | rfl | rfl | rfl | rfl
  · exact vb_astq (C := RX1) hexec hb hK hP hD hS q0 t0 ha ht (va_recv hF.2.1 (hF.P hS) (ci := 3) (q := (RX1, TX1, 4)) (q0 := 0) rfl rfl) (fun comp c0 h1 h2 => vb_asgC (hC.castable (.castable RX1 "MistHeaps$Heap") (by decide +kernel)) comp c0 h1 h2) hin hdg kk
  · exact vb_astq (C := RX3) hexec hb hK hP hD hS q0 t0 ha ht (va_recv hF.2.1 (hF.P hS) (ci := 5) (q := (RX3, TX3, 4)) (q0 := 0) rfl rfl) (fun comp c0 h1 h2 => vb_asgS comp c0 h1 h2) hin hdg kk
  · exact vb_astq (C := RX4) hexec hb hK hP hD hS q0 t0 ha ht (va_recv hF.2.1 (hF.P hS) (ci := 6) (q := (RX4, TX4, 4)) (q0 := 0) rfl rfl) (fun comp c0 h1 h2 => vb_asgC (hC.castable (.castable RX4 "MistHeaps$Heap") (by decide +kernel)) comp c0 h1 h2) hin hdg kk
  · exact vb_astq (C := RX6) hexec hb hK hP hD hS q0 t0 ha ht (va_recv hF.2.1 (hF.P hS) (ci := 8) (q := (RX6, TX6, 4)) (q0 := 0) rfl rfl) (fun comp c0 h1 h2 => vb_asgC (hC.castable (.castable RX6 "MistHeaps$Heap") (by decide +kernel)) comp c0 h1 h2) hin hdg kk
  · exact vb_astq (C := RX7) hexec hb hK hP hD hS q0 t0 ha ht (va_recv hF.2.1 (hF.P hS) (ci := 9) (q := (RX7, TX7, 4)) (q0 := 0) rfl rfl) (fun comp c0 h1 h2 => vb_asgC (hC.castable (.castable RX7 "MistHeaps$Heap") (by decide +kernel)) comp c0 h1 h2) hin hdg kk
  · exact vb_astq (C := RX9) hexec hb hK hP hD hS q0 t0 ha ht (va_recv hF.2.1 (hF.P hS) (ci := 11) (q := (RX9, TX9, 4)) (q0 := 0) rfl rfl) (fun comp c0 h1 h2 => vb_asgC (hC.castable (.castable RX9 "MistHeaps$Heap") (by decide +kernel)) comp c0 h1 h2) hin hdg kk
  · exact vb_astq (C := RX10) hexec hb hK hP hD hS q0 t0 ha ht (va_recv hF.2.1 (hF.P hS) (ci := 12) (q := (RX10, TX10, 4)) (q0 := 0) rfl rfl) (fun comp c0 h1 h2 => vb_asgC (hC.castable (.castable RX10 "MistHeaps$Heap") (by decide +kernel)) comp c0 h1 h2) hin hdg kk
end
end mg16b
section mg16b
theorem ggX8_init_X5_init : GoodIn wsX8_init wsX5_init := gga_of 111 rfl rfl rfl
theorem ggX4_init_X3_init : GoodIn wsX4_init wsX3_init := gga_of 226 rfl rfl rfl
theorem ggX6_init_X3_init : GoodIn wsX6_init wsX3_init := gga_of 226 rfl rfl rfl
theorem ggX1_init_X3_init : GoodIn wsX1_init wsX3_init := gga_of 226 rfl rfl rfl
theorem ggX10_init_X4_init : GoodIn wsX10_init wsX4_init := gga_of 561 rfl rfl rfl
theorem ggX9_init_X6_init : GoodIn wsX9_init wsX6_init := gga_of 572 rfl rfl rfl
theorem ggX7_init_X1_init : GoodIn wsX7_init wsX1_init := gga_of 583 rfl rfl rfl
theorem ggX2_init_X3_init : GoodIn wsX2_init wsX3_init := gga_of 226 rfl rfl rfl
theorem ggJxc12de_init_da8c8_Jxa1e45_init_da8c8 : GoodIn wsJxc12de_init_da8c8 wsJxa1e45_init_da8c8 := gga_of 312 rfl rfl rfl
theorem ggJx4a65c_init_da8c8_Jxc12de_init_da8c8 : GoodIn wsJx4a65c_init_da8c8 wsJxc12de_init_da8c8 := gga_of 309 rfl rfl rfl
noncomputable def dk17binit_cX5_init_0 : List (Nat × List Nat) := [(0, [42]), (1, [183, 0, 3]), (4, [42]), (5, [6]), (6, [181, 0, 11]), (9, [42]), (10, [16, 10]), (14, [181, 0, 15]), (17, [42]), (18, [16, 10]), (22, [181, 0, 19]), (25, [42]), (26, [16, 10]), (30, [181, 0, 22]), (33, [42]), (34, [16, 100]), (38, [181, 0, 25]), (41, [177])]
set_option maxRecDepth 100000 in
theorem dk17binit_cX5_init_0_a : btA cX5_init dk17binit_cX5_init_0 = true := by decide +kernel
theorem dX5_init_0 : decode cX5_init 0 = .ok (.aload_n 0, 1) := bd42 (btAt dk17binit_cX5_init_0_a 0 rfl)
theorem dX5_init_1 : decode cX5_init 1 = .ok (.invokespecial 3, 3) := bd183 (a := 0) (b := 3) (btAt dk17binit_cX5_init_0_a 1 rfl)
theorem dX5_init_4 : decode cX5_init 4 = .ok (.aload_n 0, 1) := bd42 (btAt dk17binit_cX5_init_0_a 2 rfl)
theorem dX5_init_5 : decode cX5_init 5 = .ok (.iconst 3, 1) := bd6 (btAt dk17binit_cX5_init_0_a 3 rfl)
theorem dX5_init_6 : decode cX5_init 6 = .ok (.putfield 11, 3) := bd181 (a := 0) (b := 11) (btAt dk17binit_cX5_init_0_a 4 rfl)
theorem dX5_init_9 : decode cX5_init 9 = .ok (.aload_n 0, 1) := bd42 (btAt dk17binit_cX5_init_0_a 5 rfl)
theorem dX5_init_10 : decode cX5_init 10 = .ok (.bipush 10, 2) := bd16 (a := 10) (btAt dk17binit_cX5_init_0_a 6 rfl)
theorem dX5_init_14 : decode cX5_init 14 = .ok (.putfield 15, 3) := bd181 (a := 0) (b := 15) (btAt dk17binit_cX5_init_0_a 7 rfl)
theorem dX5_init_17 : decode cX5_init 17 = .ok (.aload_n 0, 1) := bd42 (btAt dk17binit_cX5_init_0_a 8 rfl)
theorem dX5_init_18 : decode cX5_init 18 = .ok (.bipush 10, 2) := bd16 (a := 10) (btAt dk17binit_cX5_init_0_a 9 rfl)
theorem dX5_init_22 : decode cX5_init 22 = .ok (.putfield 19, 3) := bd181 (a := 0) (b := 19) (btAt dk17binit_cX5_init_0_a 10 rfl)
theorem dX5_init_25 : decode cX5_init 25 = .ok (.aload_n 0, 1) := bd42 (btAt dk17binit_cX5_init_0_a 11 rfl)
theorem dX5_init_26 : decode cX5_init 26 = .ok (.bipush 10, 2) := bd16 (a := 10) (btAt dk17binit_cX5_init_0_a 12 rfl)
theorem dX5_init_30 : decode cX5_init 30 = .ok (.putfield 22, 3) := bd181 (a := 0) (b := 22) (btAt dk17binit_cX5_init_0_a 13 rfl)
theorem dX5_init_33 : decode cX5_init 33 = .ok (.aload_n 0, 1) := bd42 (btAt dk17binit_cX5_init_0_a 14 rfl)
theorem dX5_init_34 : decode cX5_init 34 = .ok (.bipush 100, 2) := bd16 (a := 100) (btAt dk17binit_cX5_init_0_a 15 rfl)
theorem dX5_init_38 : decode cX5_init 38 = .ok (.putfield 25, 3) := bd181 (a := 0) (b := 25) (btAt dk17binit_cX5_init_0_a 16 rfl)
theorem dX5_init_41 : decode cX5_init 41 = .ok (.return_, 1) := bd177 (btAt dk17binit_cX5_init_0_a 17 rfl)
set_option maxRecDepth 100000 in
theorem dX5_init_12 : decode cX5_init 12 = .ok (.newarray .int, 2) := by decide +kernel
set_option maxRecDepth 100000 in
theorem dX5_init_20 : decode cX5_init 20 = .ok (.newarray .int, 2) := by decide +kernel
set_option maxRecDepth 100000 in
theorem dX5_init_28 : decode cX5_init 28 = .ok (.newarray .int, 2) := by decide +kernel
set_option maxRecDepth 100000 in
theorem dX5_init_36 : decode cX5_init 36 = .ok (.newarray .int, 2) := by decide +kernel
noncomputable def dk17binit_cX8_init_0 : List (Nat × List Nat) := [(0, [42]), (1, [183, 0, 3]), (4, [42]), (5, [16, 100]), (9, [181, 0, 9]), (12, [42]), (13, [187, 0, 15]), (16, [89]), (17, [183, 0, 17]), (20, [181, 0, 18]), (23, [42]), (24, [16, 8]), (26, [189, 0, 22]), (29, [181, 0, 24]), (32, [42]), (33, [16, 6]), (37, [181, 0, 28]), (40, [42]), (41, [16, 12]), (45, [181, 0, 31]), (48, [42]), (49, [16, 6]), (53, [181, 0, 34]), (56, [177])]
set_option maxRecDepth 100000 in
theorem dk17binit_cX8_init_0_a : btA cX8_init dk17binit_cX8_init_0 = true := by decide +kernel
theorem dX8_init_0 : decode cX8_init 0 = .ok (.aload_n 0, 1) := bd42 (btAt dk17binit_cX8_init_0_a 0 rfl)
theorem dX8_init_1 : decode cX8_init 1 = .ok (.invokespecial 3, 3) := bd183 (a := 0) (b := 3) (btAt dk17binit_cX8_init_0_a 1 rfl)
theorem dX8_init_4 : decode cX8_init 4 = .ok (.aload_n 0, 1) := bd42 (btAt dk17binit_cX8_init_0_a 2 rfl)
theorem dX8_init_5 : decode cX8_init 5 = .ok (.bipush 100, 2) := bd16 (a := 100) (btAt dk17binit_cX8_init_0_a 3 rfl)
theorem dX8_init_9 : decode cX8_init 9 = .ok (.putfield 9, 3) := bd181 (a := 0) (b := 9) (btAt dk17binit_cX8_init_0_a 4 rfl)
theorem dX8_init_12 : decode cX8_init 12 = .ok (.aload_n 0, 1) := bd42 (btAt dk17binit_cX8_init_0_a 5 rfl)
theorem dX8_init_13 : decode cX8_init 13 = .ok (.new 15, 3) := bd187 (a := 0) (b := 15) (btAt dk17binit_cX8_init_0_a 6 rfl)
theorem dX8_init_16 : decode cX8_init 16 = .ok (.dup, 1) := bd89 (btAt dk17binit_cX8_init_0_a 7 rfl)
theorem dX8_init_17 : decode cX8_init 17 = .ok (.invokespecial 17, 3) := bd183 (a := 0) (b := 17) (btAt dk17binit_cX8_init_0_a 8 rfl)
theorem dX8_init_20 : decode cX8_init 20 = .ok (.putfield 18, 3) := bd181 (a := 0) (b := 18) (btAt dk17binit_cX8_init_0_a 9 rfl)
theorem dX8_init_23 : decode cX8_init 23 = .ok (.aload_n 0, 1) := bd42 (btAt dk17binit_cX8_init_0_a 10 rfl)
theorem dX8_init_24 : decode cX8_init 24 = .ok (.bipush 8, 2) := bd16 (a := 8) (btAt dk17binit_cX8_init_0_a 11 rfl)
theorem dX8_init_26 : decode cX8_init 26 = .ok (.anewarray 22, 3) := bd189 (a := 0) (b := 22) (btAt dk17binit_cX8_init_0_a 12 rfl)
theorem dX8_init_29 : decode cX8_init 29 = .ok (.putfield 24, 3) := bd181 (a := 0) (b := 24) (btAt dk17binit_cX8_init_0_a 13 rfl)
theorem dX8_init_32 : decode cX8_init 32 = .ok (.aload_n 0, 1) := bd42 (btAt dk17binit_cX8_init_0_a 14 rfl)
theorem dX8_init_33 : decode cX8_init 33 = .ok (.bipush 6, 2) := bd16 (a := 6) (btAt dk17binit_cX8_init_0_a 15 rfl)
theorem dX8_init_37 : decode cX8_init 37 = .ok (.putfield 28, 3) := bd181 (a := 0) (b := 28) (btAt dk17binit_cX8_init_0_a 16 rfl)
theorem dX8_init_40 : decode cX8_init 40 = .ok (.aload_n 0, 1) := bd42 (btAt dk17binit_cX8_init_0_a 17 rfl)
theorem dX8_init_41 : decode cX8_init 41 = .ok (.bipush 12, 2) := bd16 (a := 12) (btAt dk17binit_cX8_init_0_a 18 rfl)
theorem dX8_init_45 : decode cX8_init 45 = .ok (.putfield 31, 3) := bd181 (a := 0) (b := 31) (btAt dk17binit_cX8_init_0_a 19 rfl)
theorem dX8_init_48 : decode cX8_init 48 = .ok (.aload_n 0, 1) := bd42 (btAt dk17binit_cX8_init_0_a 20 rfl)
theorem dX8_init_49 : decode cX8_init 49 = .ok (.bipush 6, 2) := bd16 (a := 6) (btAt dk17binit_cX8_init_0_a 21 rfl)
theorem dX8_init_53 : decode cX8_init 53 = .ok (.putfield 34, 3) := bd181 (a := 0) (b := 34) (btAt dk17binit_cX8_init_0_a 22 rfl)
theorem dX8_init_56 : decode cX8_init 56 = .ok (.return_, 1) := bd177 (btAt dk17binit_cX8_init_0_a 23 rfl)
set_option maxRecDepth 100000 in
theorem dX8_init_7 : decode cX8_init 7 = .ok (.newarray .int, 2) := by decide +kernel
set_option maxRecDepth 100000 in
theorem dX8_init_35 : decode cX8_init 35 = .ok (.newarray .int, 2) := by decide +kernel
set_option maxRecDepth 100000 in
theorem dX8_init_43 : decode cX8_init 43 = .ok (.newarray .int, 2) := by decide +kernel
set_option maxRecDepth 100000 in
theorem dX8_init_51 : decode cX8_init 51 = .ok (.newarray .int, 2) := by decide +kernel
noncomputable def dk17binit_cX3_init_0 : List (Nat × List Nat) := [(0, [42]), (1, [183, 0, 3]), (4, [42]), (5, [27]), (6, [181, 0, 9]), (9, [42]), (10, [28]), (11, [181, 0, 15]), (14, [42]), (15, [29]), (16, [181, 0, 18]), (19, [42]), (20, [21, 4]), (22, [181, 0, 21]), (25, [177])]
set_option maxRecDepth 100000 in
theorem dk17binit_cX3_init_0_a : btA cX3_init dk17binit_cX3_init_0 = true := by decide +kernel
theorem dX3_init_0 : decode cX3_init 0 = .ok (.aload_n 0, 1) := bd42 (btAt dk17binit_cX3_init_0_a 0 rfl)
theorem dX3_init_1 : decode cX3_init 1 = .ok (.invokespecial 3, 3) := bd183 (a := 0) (b := 3) (btAt dk17binit_cX3_init_0_a 1 rfl)
theorem dX3_init_4 : decode cX3_init 4 = .ok (.aload_n 0, 1) := bd42 (btAt dk17binit_cX3_init_0_a 2 rfl)
theorem dX3_init_5 : decode cX3_init 5 = .ok (.iload_n 1, 1) := bd27 (btAt dk17binit_cX3_init_0_a 3 rfl)
theorem dX3_init_6 : decode cX3_init 6 = .ok (.putfield 9, 3) := bd181 (a := 0) (b := 9) (btAt dk17binit_cX3_init_0_a 4 rfl)
theorem dX3_init_9 : decode cX3_init 9 = .ok (.aload_n 0, 1) := bd42 (btAt dk17binit_cX3_init_0_a 5 rfl)
theorem dX3_init_10 : decode cX3_init 10 = .ok (.iload_n 2, 1) := bd28 (btAt dk17binit_cX3_init_0_a 6 rfl)
theorem dX3_init_11 : decode cX3_init 11 = .ok (.putfield 15, 3) := bd181 (a := 0) (b := 15) (btAt dk17binit_cX3_init_0_a 7 rfl)
theorem dX3_init_14 : decode cX3_init 14 = .ok (.aload_n 0, 1) := bd42 (btAt dk17binit_cX3_init_0_a 8 rfl)
theorem dX3_init_15 : decode cX3_init 15 = .ok (.iload_n 3, 1) := bd29 (btAt dk17binit_cX3_init_0_a 9 rfl)
theorem dX3_init_16 : decode cX3_init 16 = .ok (.putfield 18, 3) := bd181 (a := 0) (b := 18) (btAt dk17binit_cX3_init_0_a 10 rfl)
theorem dX3_init_19 : decode cX3_init 19 = .ok (.aload_n 0, 1) := bd42 (btAt dk17binit_cX3_init_0_a 11 rfl)
theorem dX3_init_20 : decode cX3_init 20 = .ok (.iload 4, 2) := bd21 (a := 4) (btAt dk17binit_cX3_init_0_a 12 rfl)
theorem dX3_init_22 : decode cX3_init 22 = .ok (.putfield 21, 3) := bd181 (a := 0) (b := 21) (btAt dk17binit_cX3_init_0_a 13 rfl)
theorem dX3_init_25 : decode cX3_init 25 = .ok (.return_, 1) := bd177 (btAt dk17binit_cX3_init_0_a 14 rfl)
noncomputable def dk17binit_cX4_init_0 : List (Nat × List Nat) := [(0, [42]), (1, [27]), (2, [28]), (3, [29]), (4, [21, 4]), (6, [183, 0, 1]), (9, [177])]
set_option maxRecDepth 100000 in
theorem dk17binit_cX4_init_0_a : btA cX4_init dk17binit_cX4_init_0 = true := by decide +kernel
theorem dX4_init_0 : decode cX4_init 0 = .ok (.aload_n 0, 1) := bd42 (btAt dk17binit_cX4_init_0_a 0 rfl)
theorem dX4_init_1 : decode cX4_init 1 = .ok (.iload_n 1, 1) := bd27 (btAt dk17binit_cX4_init_0_a 1 rfl)
theorem dX4_init_2 : decode cX4_init 2 = .ok (.iload_n 2, 1) := bd28 (btAt dk17binit_cX4_init_0_a 2 rfl)
theorem dX4_init_3 : decode cX4_init 3 = .ok (.iload_n 3, 1) := bd29 (btAt dk17binit_cX4_init_0_a 3 rfl)
theorem dX4_init_4 : decode cX4_init 4 = .ok (.iload 4, 2) := bd21 (a := 4) (btAt dk17binit_cX4_init_0_a 4 rfl)
theorem dX4_init_6 : decode cX4_init 6 = .ok (.invokespecial 1, 3) := bd183 (a := 0) (b := 1) (btAt dk17binit_cX4_init_0_a 5 rfl)
theorem dX4_init_9 : decode cX4_init 9 = .ok (.return_, 1) := bd177 (btAt dk17binit_cX4_init_0_a 6 rfl)
noncomputable def dk17binit_cX6_init_0 : List (Nat × List Nat) := [(0, [42]), (1, [27]), (2, [28]), (3, [29]), (4, [21, 4]), (6, [183, 0, 1]), (9, [177])]
set_option maxRecDepth 100000 in
theorem dk17binit_cX6_init_0_a : btA cX6_init dk17binit_cX6_init_0 = true := by decide +kernel
theorem dX6_init_0 : decode cX6_init 0 = .ok (.aload_n 0, 1) := bd42 (btAt dk17binit_cX6_init_0_a 0 rfl)
theorem dX6_init_1 : decode cX6_init 1 = .ok (.iload_n 1, 1) := bd27 (btAt dk17binit_cX6_init_0_a 1 rfl)
theorem dX6_init_2 : decode cX6_init 2 = .ok (.iload_n 2, 1) := bd28 (btAt dk17binit_cX6_init_0_a 2 rfl)
theorem dX6_init_3 : decode cX6_init 3 = .ok (.iload_n 3, 1) := bd29 (btAt dk17binit_cX6_init_0_a 3 rfl)
theorem dX6_init_4 : decode cX6_init 4 = .ok (.iload 4, 2) := bd21 (a := 4) (btAt dk17binit_cX6_init_0_a 4 rfl)
theorem dX6_init_6 : decode cX6_init 6 = .ok (.invokespecial 1, 3) := bd183 (a := 0) (b := 1) (btAt dk17binit_cX6_init_0_a 5 rfl)
theorem dX6_init_9 : decode cX6_init 9 = .ok (.return_, 1) := bd177 (btAt dk17binit_cX6_init_0_a 6 rfl)
noncomputable def dk17binit_cX1_init_0 : List (Nat × List Nat) := [(0, [42]), (1, [27]), (2, [28]), (3, [29]), (4, [21, 4]), (6, [183, 0, 1]), (9, [177])]
set_option maxRecDepth 100000 in
theorem dk17binit_cX1_init_0_a : btA cX1_init dk17binit_cX1_init_0 = true := by decide +kernel
theorem dX1_init_0 : decode cX1_init 0 = .ok (.aload_n 0, 1) := bd42 (btAt dk17binit_cX1_init_0_a 0 rfl)
theorem dX1_init_1 : decode cX1_init 1 = .ok (.iload_n 1, 1) := bd27 (btAt dk17binit_cX1_init_0_a 1 rfl)
theorem dX1_init_2 : decode cX1_init 2 = .ok (.iload_n 2, 1) := bd28 (btAt dk17binit_cX1_init_0_a 2 rfl)
theorem dX1_init_3 : decode cX1_init 3 = .ok (.iload_n 3, 1) := bd29 (btAt dk17binit_cX1_init_0_a 3 rfl)
theorem dX1_init_4 : decode cX1_init 4 = .ok (.iload 4, 2) := bd21 (a := 4) (btAt dk17binit_cX1_init_0_a 4 rfl)
theorem dX1_init_6 : decode cX1_init 6 = .ok (.invokespecial 1, 3) := bd183 (a := 0) (b := 1) (btAt dk17binit_cX1_init_0_a 5 rfl)
theorem dX1_init_9 : decode cX1_init 9 = .ok (.return_, 1) := bd177 (btAt dk17binit_cX1_init_0_a 6 rfl)
noncomputable def dk17binit_cX10_init_0 : List (Nat × List Nat) := [(0, [42]), (1, [27]), (2, [28]), (3, [29]), (4, [21, 4]), (6, [183, 0, 3]), (9, [177])]
set_option maxRecDepth 100000 in
theorem dk17binit_cX10_init_0_a : btA cX10_init dk17binit_cX10_init_0 = true := by decide +kernel
theorem dX10_init_0 : decode cX10_init 0 = .ok (.aload_n 0, 1) := bd42 (btAt dk17binit_cX10_init_0_a 0 rfl)
theorem dX10_init_1 : decode cX10_init 1 = .ok (.iload_n 1, 1) := bd27 (btAt dk17binit_cX10_init_0_a 1 rfl)
theorem dX10_init_2 : decode cX10_init 2 = .ok (.iload_n 2, 1) := bd28 (btAt dk17binit_cX10_init_0_a 2 rfl)
theorem dX10_init_3 : decode cX10_init 3 = .ok (.iload_n 3, 1) := bd29 (btAt dk17binit_cX10_init_0_a 3 rfl)
theorem dX10_init_4 : decode cX10_init 4 = .ok (.iload 4, 2) := bd21 (a := 4) (btAt dk17binit_cX10_init_0_a 4 rfl)
theorem dX10_init_6 : decode cX10_init 6 = .ok (.invokespecial 3, 3) := bd183 (a := 0) (b := 3) (btAt dk17binit_cX10_init_0_a 5 rfl)
theorem dX10_init_9 : decode cX10_init 9 = .ok (.return_, 1) := bd177 (btAt dk17binit_cX10_init_0_a 6 rfl)
noncomputable def dk17binit_cX9_init_0 : List (Nat × List Nat) := [(0, [42]), (1, [27]), (2, [28]), (3, [29]), (4, [21, 4]), (6, [183, 0, 1]), (9, [177])]
set_option maxRecDepth 100000 in
theorem dk17binit_cX9_init_0_a : btA cX9_init dk17binit_cX9_init_0 = true := by decide +kernel
theorem dX9_init_0 : decode cX9_init 0 = .ok (.aload_n 0, 1) := bd42 (btAt dk17binit_cX9_init_0_a 0 rfl)
theorem dX9_init_1 : decode cX9_init 1 = .ok (.iload_n 1, 1) := bd27 (btAt dk17binit_cX9_init_0_a 1 rfl)
theorem dX9_init_2 : decode cX9_init 2 = .ok (.iload_n 2, 1) := bd28 (btAt dk17binit_cX9_init_0_a 2 rfl)
theorem dX9_init_3 : decode cX9_init 3 = .ok (.iload_n 3, 1) := bd29 (btAt dk17binit_cX9_init_0_a 3 rfl)
theorem dX9_init_4 : decode cX9_init 4 = .ok (.iload 4, 2) := bd21 (a := 4) (btAt dk17binit_cX9_init_0_a 4 rfl)
theorem dX9_init_6 : decode cX9_init 6 = .ok (.invokespecial 1, 3) := bd183 (a := 0) (b := 1) (btAt dk17binit_cX9_init_0_a 5 rfl)
theorem dX9_init_9 : decode cX9_init 9 = .ok (.return_, 1) := bd177 (btAt dk17binit_cX9_init_0_a 6 rfl)
noncomputable def dk17binit_cX7_init_0 : List (Nat × List Nat) := [(0, [42]), (1, [27]), (2, [28]), (3, [29]), (4, [21, 4]), (6, [183, 0, 1]), (9, [177])]
set_option maxRecDepth 100000 in
theorem dk17binit_cX7_init_0_a : btA cX7_init dk17binit_cX7_init_0 = true := by decide +kernel
theorem dX7_init_0 : decode cX7_init 0 = .ok (.aload_n 0, 1) := bd42 (btAt dk17binit_cX7_init_0_a 0 rfl)
theorem dX7_init_1 : decode cX7_init 1 = .ok (.iload_n 1, 1) := bd27 (btAt dk17binit_cX7_init_0_a 1 rfl)
theorem dX7_init_2 : decode cX7_init 2 = .ok (.iload_n 2, 1) := bd28 (btAt dk17binit_cX7_init_0_a 2 rfl)
theorem dX7_init_3 : decode cX7_init 3 = .ok (.iload_n 3, 1) := bd29 (btAt dk17binit_cX7_init_0_a 3 rfl)
theorem dX7_init_4 : decode cX7_init 4 = .ok (.iload 4, 2) := bd21 (a := 4) (btAt dk17binit_cX7_init_0_a 4 rfl)
theorem dX7_init_6 : decode cX7_init 6 = .ok (.invokespecial 1, 3) := bd183 (a := 0) (b := 1) (btAt dk17binit_cX7_init_0_a 5 rfl)
theorem dX7_init_9 : decode cX7_init 9 = .ok (.return_, 1) := bd177 (btAt dk17binit_cX7_init_0_a 6 rfl)
noncomputable def dk17binit_cX2_init_0 : List (Nat × List Nat) := [(0, [42]), (1, [183, 0, 3]), (4, [42]), (5, [16, 8]), (9, [181, 0, 9]), (12, [42]), (13, [16, 8]), (17, [181, 0, 15]), (20, [42]), (21, [187, 0, 18]), (24, [89]), (25, [3]), (26, [3]), (27, [3]), (28, [3]), (29, [183, 0, 20]), (32, [181, 0, 23]), (35, [177])]
set_option maxRecDepth 100000 in
theorem dk17binit_cX2_init_0_a : btA cX2_init dk17binit_cX2_init_0 = true := by decide +kernel
theorem dX2_init_0 : decode cX2_init 0 = .ok (.aload_n 0, 1) := bd42 (btAt dk17binit_cX2_init_0_a 0 rfl)
theorem dX2_init_1 : decode cX2_init 1 = .ok (.invokespecial 3, 3) := bd183 (a := 0) (b := 3) (btAt dk17binit_cX2_init_0_a 1 rfl)
theorem dX2_init_4 : decode cX2_init 4 = .ok (.aload_n 0, 1) := bd42 (btAt dk17binit_cX2_init_0_a 2 rfl)
theorem dX2_init_5 : decode cX2_init 5 = .ok (.bipush 8, 2) := bd16 (a := 8) (btAt dk17binit_cX2_init_0_a 3 rfl)
theorem dX2_init_9 : decode cX2_init 9 = .ok (.putfield 9, 3) := bd181 (a := 0) (b := 9) (btAt dk17binit_cX2_init_0_a 4 rfl)
theorem dX2_init_12 : decode cX2_init 12 = .ok (.aload_n 0, 1) := bd42 (btAt dk17binit_cX2_init_0_a 5 rfl)
theorem dX2_init_13 : decode cX2_init 13 = .ok (.bipush 8, 2) := bd16 (a := 8) (btAt dk17binit_cX2_init_0_a 6 rfl)
theorem dX2_init_17 : decode cX2_init 17 = .ok (.putfield 15, 3) := bd181 (a := 0) (b := 15) (btAt dk17binit_cX2_init_0_a 7 rfl)
theorem dX2_init_20 : decode cX2_init 20 = .ok (.aload_n 0, 1) := bd42 (btAt dk17binit_cX2_init_0_a 8 rfl)
theorem dX2_init_21 : decode cX2_init 21 = .ok (.new 18, 3) := bd187 (a := 0) (b := 18) (btAt dk17binit_cX2_init_0_a 9 rfl)
theorem dX2_init_24 : decode cX2_init 24 = .ok (.dup, 1) := bd89 (btAt dk17binit_cX2_init_0_a 10 rfl)
theorem dX2_init_25 : decode cX2_init 25 = .ok (.iconst 0, 1) := bd3 (btAt dk17binit_cX2_init_0_a 11 rfl)
theorem dX2_init_26 : decode cX2_init 26 = .ok (.iconst 0, 1) := bd3 (btAt dk17binit_cX2_init_0_a 12 rfl)
theorem dX2_init_27 : decode cX2_init 27 = .ok (.iconst 0, 1) := bd3 (btAt dk17binit_cX2_init_0_a 13 rfl)
theorem dX2_init_28 : decode cX2_init 28 = .ok (.iconst 0, 1) := bd3 (btAt dk17binit_cX2_init_0_a 14 rfl)
theorem dX2_init_29 : decode cX2_init 29 = .ok (.invokespecial 20, 3) := bd183 (a := 0) (b := 20) (btAt dk17binit_cX2_init_0_a 15 rfl)
theorem dX2_init_32 : decode cX2_init 32 = .ok (.putfield 23, 3) := bd181 (a := 0) (b := 23) (btAt dk17binit_cX2_init_0_a 16 rfl)
theorem dX2_init_35 : decode cX2_init 35 = .ok (.return_, 1) := bd177 (btAt dk17binit_cX2_init_0_a 17 rfl)
set_option maxRecDepth 100000 in
theorem dX2_init_7 : decode cX2_init 7 = .ok (.newarray .int, 2) := by decide +kernel
set_option maxRecDepth 100000 in
theorem dX2_init_15 : decode cX2_init 15 = .ok (.newarray .int, 2) := by decide +kernel
noncomputable def dk17binit_cX0_init_0 : List (Nat × List Nat) := [(0, [42]), (1, [183, 0, 3]), (4, [42]), (5, [16, 36]), (9, [181, 0, 9]), (12, [42]), (13, [6]), (14, [16, 36]), (20, [181, 0, 17]), (23, [42]), (24, [16, 8]), (26, [16, 36]), (32, [181, 0, 22]), (35, [177])]
set_option maxRecDepth 100000 in
theorem dk17binit_cX0_init_0_a : btA cX0_init dk17binit_cX0_init_0 = true := by decide +kernel
theorem dX0_init_0 : decode cX0_init 0 = .ok (.aload_n 0, 1) := bd42 (btAt dk17binit_cX0_init_0_a 0 rfl)
theorem dX0_init_1 : decode cX0_init 1 = .ok (.invokespecial 3, 3) := bd183 (a := 0) (b := 3) (btAt dk17binit_cX0_init_0_a 1 rfl)
theorem dX0_init_4 : decode cX0_init 4 = .ok (.aload_n 0, 1) := bd42 (btAt dk17binit_cX0_init_0_a 2 rfl)
theorem dX0_init_5 : decode cX0_init 5 = .ok (.bipush 36, 2) := bd16 (a := 36) (btAt dk17binit_cX0_init_0_a 3 rfl)
theorem dX0_init_9 : decode cX0_init 9 = .ok (.putfield 9, 3) := bd181 (a := 0) (b := 9) (btAt dk17binit_cX0_init_0_a 4 rfl)
theorem dX0_init_12 : decode cX0_init 12 = .ok (.aload_n 0, 1) := bd42 (btAt dk17binit_cX0_init_0_a 5 rfl)
theorem dX0_init_13 : decode cX0_init 13 = .ok (.iconst 3, 1) := bd6 (btAt dk17binit_cX0_init_0_a 6 rfl)
theorem dX0_init_14 : decode cX0_init 14 = .ok (.bipush 36, 2) := bd16 (a := 36) (btAt dk17binit_cX0_init_0_a 7 rfl)
theorem dX0_init_20 : decode cX0_init 20 = .ok (.putfield 17, 3) := bd181 (a := 0) (b := 17) (btAt dk17binit_cX0_init_0_a 8 rfl)
theorem dX0_init_23 : decode cX0_init 23 = .ok (.aload_n 0, 1) := bd42 (btAt dk17binit_cX0_init_0_a 9 rfl)
theorem dX0_init_24 : decode cX0_init 24 = .ok (.bipush 8, 2) := bd16 (a := 8) (btAt dk17binit_cX0_init_0_a 10 rfl)
theorem dX0_init_26 : decode cX0_init 26 = .ok (.bipush 36, 2) := bd16 (a := 36) (btAt dk17binit_cX0_init_0_a 11 rfl)
theorem dX0_init_32 : decode cX0_init 32 = .ok (.putfield 22, 3) := bd181 (a := 0) (b := 22) (btAt dk17binit_cX0_init_0_a 12 rfl)
theorem dX0_init_35 : decode cX0_init 35 = .ok (.return_, 1) := bd177 (btAt dk17binit_cX0_init_0_a 13 rfl)
set_option maxRecDepth 100000 in
theorem dX0_init_7 : decode cX0_init 7 = .ok (.newarray .int, 2) := by decide +kernel
set_option maxRecDepth 100000 in
theorem dX0_init_16 : decode cX0_init 16 = .ok (.multianewarray 15 2, 4) := by decide +kernel
set_option maxRecDepth 100000 in
theorem dX0_init_28 : decode cX0_init 28 = .ok (.multianewarray 20 2, 4) := by decide +kernel
set_option maxRecDepth 100000 in
theorem dJxa1e45_init_da8c8_0 : decode cJxa1e45_init_da8c8 0 = .ok (.aload_n 0, 1) := bd42 (by decide +kernel)
set_option maxRecDepth 100000 in
theorem dJxa1e45_init_da8c8_1 : decode cJxa1e45_init_da8c8 1 = .ok (.invokespecial 1, 3) := bd183 (a := 0) (b := 1) (by decide +kernel)
set_option maxRecDepth 100000 in
theorem dJxa1e45_init_da8c8_4 : decode cJxa1e45_init_da8c8 4 = .ok (.return_, 1) := bd177 (by decide +kernel)
noncomputable def dk17binit_cJxc12de_init_da8c8_0 : List (Nat × List Nat) := [(0, [42]), (1, [183, 0, 1]), (4, [42]), (5, [3]), (6, [181, 0, 7]), (9, [177])]
set_option maxRecDepth 100000 in
theorem dk17binit_cJxc12de_init_da8c8_0_a : btA cJxc12de_init_da8c8 dk17binit_cJxc12de_init_da8c8_0 = true := by decide +kernel
theorem dJxc12de_init_da8c8_0 : decode cJxc12de_init_da8c8 0 = .ok (.aload_n 0, 1) := bd42 (btAt dk17binit_cJxc12de_init_da8c8_0_a 0 rfl)
theorem dJxc12de_init_da8c8_1 : decode cJxc12de_init_da8c8 1 = .ok (.invokespecial 1, 3) := bd183 (a := 0) (b := 1) (btAt dk17binit_cJxc12de_init_da8c8_0_a 1 rfl)
theorem dJxc12de_init_da8c8_4 : decode cJxc12de_init_da8c8 4 = .ok (.aload_n 0, 1) := bd42 (btAt dk17binit_cJxc12de_init_da8c8_0_a 2 rfl)
theorem dJxc12de_init_da8c8_5 : decode cJxc12de_init_da8c8 5 = .ok (.iconst 0, 1) := bd3 (btAt dk17binit_cJxc12de_init_da8c8_0_a 3 rfl)
theorem dJxc12de_init_da8c8_6 : decode cJxc12de_init_da8c8 6 = .ok (.putfield 7, 3) := bd181 (a := 0) (b := 7) (btAt dk17binit_cJxc12de_init_da8c8_0_a 4 rfl)
theorem dJxc12de_init_da8c8_9 : decode cJxc12de_init_da8c8 9 = .ok (.return_, 1) := bd177 (btAt dk17binit_cJxc12de_init_da8c8_0_a 5 rfl)
noncomputable def dk17binit_cJx4a65c_init_da8c8_0 : List (Nat × List Nat) := [(0, [42]), (1, [183, 0, 1]), (4, [42]), (5, [178, 0, 39]), (8, [181, 0, 9]), (11, [177])]
set_option maxRecDepth 100000 in
theorem dk17binit_cJx4a65c_init_da8c8_0_a : btA cJx4a65c_init_da8c8 dk17binit_cJx4a65c_init_da8c8_0 = true := by decide +kernel
theorem dJx4a65c_init_da8c8_0 : decode cJx4a65c_init_da8c8 0 = .ok (.aload_n 0, 1) := bd42 (btAt dk17binit_cJx4a65c_init_da8c8_0_a 0 rfl)
theorem dJx4a65c_init_da8c8_1 : decode cJx4a65c_init_da8c8 1 = .ok (.invokespecial 1, 3) := bd183 (a := 0) (b := 1) (btAt dk17binit_cJx4a65c_init_da8c8_0_a 1 rfl)
theorem dJx4a65c_init_da8c8_4 : decode cJx4a65c_init_da8c8 4 = .ok (.aload_n 0, 1) := bd42 (btAt dk17binit_cJx4a65c_init_da8c8_0_a 2 rfl)
theorem dJx4a65c_init_da8c8_5 : decode cJx4a65c_init_da8c8 5 = .ok (.getstatic 39, 3) := bd178 (a := 0) (b := 39) (btAt dk17binit_cJx4a65c_init_da8c8_0_a 3 rfl)
theorem dJx4a65c_init_da8c8_8 : decode cJx4a65c_init_da8c8 8 = .ok (.putfield 9, 3) := bd181 (a := 0) (b := 9) (btAt dk17binit_cJx4a65c_init_da8c8_0_a 4 rfl)
theorem dJx4a65c_init_da8c8_11 : decode cJx4a65c_init_da8c8 11 = .ok (.return_, 1) := bd177 (btAt dk17binit_cJx4a65c_init_da8c8_0_a 5 rfl)
theorem kc_hillInit_0 : (.methodLink RX5 3 objectInit : Cond) ∈ wsX5_init := kc_of 112 rfl rfl rfl
theorem kc_hillInit_1 : (.instanceMethod objectInit : Cond) ∈ wsX5_init := kc_of 99 rfl rfl rfl
theorem kc_hillInit_2 : (.code objectInit ⟨#[0xb1]⟩ 1 none : Cond) ∈ wsX5_init := kc_of 100 rfl rfl rfl
theorem kc_hillInit_3 : ∀ w ∈ wsX50, w ∈ wsX5_init := fun w h => List.mem_cons_of_mem _ (gin_wsX50 w h)
theorem kc_hillInit_4 : (.fieldLink RX5 11 "MistHeaps$Hill" "sight" "I" : Cond) ∈ wsX5_init := kc_of 113 rfl rfl rfl
theorem kc_hillInit_5 : (.arrayClass .int : Cond) ∈ wsX5_init := kc_of 149 rfl rfl rfl
theorem kc_hillInit_6 : (.fieldLink RX5 15 "MistHeaps$Hill" "words" "[I" : Cond) ∈ wsX5_init := kc_of 117 rfl rfl rfl
theorem kc_hillInit_7 : (.fieldLink RX5 19 "MistHeaps$Hill" "amounts" "[I" : Cond) ∈ wsX5_init := kc_of 118 rfl rfl rfl
theorem kc_hillInit_8 : (.fieldLink RX5 22 "MistHeaps$Hill" "ends" "[I" : Cond) ∈ wsX5_init := kc_of 119 rfl rfl rfl
theorem kc_hillInit_9 : (.fieldLink RX5 25 "MistHeaps$Hill" "codes" "[I" : Cond) ∈ wsX5_init := kc_of 120 rfl rfl rfl
set_option maxHeartbeats 4000000 in
set_option maxRecDepth 100000 in
theorem c_hillInit (l : Launch) (dC : Nat → ClassId) (dI : Nat → Nat → Nat) (a0 : Nat) (sz : Nat) : Met l yX5_init wsX5_init ({ frames := 1, cells := 4, slots := 130, locals := 12 } : Room) (va_Pc [.ref a0] (fun U => U.heap.size = sz ∧ va_P (dC, dI) vwCl [(zo7iinnnniniii a0 0 0 0 0 0 0)] U.heap ∧ va_K (dC, dI) vwCl [] U ∧ va_D (fun _ => True) [(zo7iinnnniniii a0 0 0 0 0 0 0)])) (va_Qv (fun (u : Unit) => match u with | () => True) (fun (u : Unit) (t : State) => match u with | () => ∃ bW : Nat, ∃ bA : Nat, ∃ bE : Nat, ∃ bC : Nat, ∃ cbW : ClassId, ∃ cbA : ClassId, ∃ cbE : ClassId, ∃ cbC : ClassId, va_P (dC, dI) vwCl [(zo7iirrrriniii a0 3 0 bW bA bE bC 0 0 0 0), (zaI bW cbW 10 (fun _ => 0)), (zaI bA cbA 10 (fun _ => 0)), (zaI bE cbE 10 (fun _ => 0)), (zaI bC cbC 100 (fun _ => 0))] t.heap ∧ va_K (dC, dI) vwCl [(cbW, .int), (cbA, .int), (cbE, .int), (cbC, .int)] t ∧ va_D (va_A [(zo7iinnnniniii a0 0 0 0 0 0 0)] sz) [(zo7iirrrriniii a0 3 0 bW bA bE bC 0 0 0 0), (zaI bW cbW 10 (fun _ => 0)), (zaI bA cbA 10 (fun _ => 0)), (zaI bE cbE 10 (fun _ => 0)), (zaI bC cbC 100 (fun _ => 0))]) (va_A [(zo7iinnnniniii a0 0 0 0 0 0 0)] sz)) 4 130 (va_A [(zo7iinnnniniii a0 0 0 0 0 0 0)] sz) := by
  refine met_ofQ (cc := cX5_init) (maxL := 1) (ret := none) (by decide) rfl ?_
  intro p e s m args below meth c s₁ Q B hml hv hQ
  obtain ⟨rfl, hsz, hP, hK, hD0⟩ := hv
  have hx := B.exec
  have hb := B.bytes
  have hr := B.returns
  have hts := atoms_spec (ws := wsX5_init) B.pre
  have hown : s.vm.findClass RX5 = some m.cls := findClass_of_methodNamed B.named
  have hlocks := B.notSynchronized
  have hin : meth.name = "<init>" := (name_of_methodNamed B.named B.method).1
  subst hsz
  have hD := hD0.self (sz := s.heap.size)
  generalize hAe : va_A [(zo7iinnnniniii a0 0 0 0 0 0 0)] s.heap.size = A at hD hQ ⊢
  have hA : ∀ q : Nat, s.heap.size ≤ q → A q := fun q h => by rw [← hAe]; exact Or.inr h
  have hS : va_S A s.heap s.heap [] := va_S.rf
  have hl := lv_entry [.ref a0] (n := 1) (Nat.le_of_ble_eq_true rfl)
  rw [lg_entry_eq]
  generalize (lg_sl [.ref a0] ++ List.replicate (1 - (lg_sl [.ref a0]).length) Slot.unset).toArray = ls at hl ⊢
  generalize hag : ([.ref a0] : List Value).toArray = args at hts hQ ⊢
  have hl : lv_has ls 1 [(0, .ref a0)] := hl
  obtain ⟨H, hH⟩ : ∃ H : Heap, H = s.heap := ⟨_, rfl⟩
  rw [← hH] at hP
  rw [← hH]
  have hS : va_S A s.heap H [] := by rw [hH]; exact hS
  obtain ⟨locs, hlo⟩ : ∃ L : List Loc, L = [] := ⟨_, rfl⟩
  rw [← hlo] at hS
  rw [← hlo]
  clear hH hlo
  refine lv_aload_n hx hb dX5_init_0 rfl (lv_at hl 0 rfl) ?_
  refine W.objInit hx hb hown (hts (.methodLink RX5 3 objectInit) kc_hillInit_0) (hts (.instanceMethod objectInit) kc_hillInit_1) (hts (.code objectInit ⟨#[0xb1]⟩ 1 none) kc_hillInit_2) rfl (by rw [hml]; exact hl.1) rfl dX5_init_1 (Nat.le_of_ble_eq_true rfl) (Nat.le_of_ble_eq_true rfl) ?_
  refine W.eq (g2 := F0 m 4 ls []) rfl ?_
  refine lv_aload_n hx hb dX5_init_4 rfl (lv_at hl 0 rfl) ?_
  refine lv_iconst (v := 3) hx hb dX5_init_5 (by decide) ?_
  refine va_put (D := (dC, dI)) (ci := 7) (v := .int 3) (ty := .int) (C := RX5) (T := TX5) (N := 11) hx hb hts kc_hillInit_3 tyX5 tyX5_ok nmX5 hown hK hP hD hS 0 rfl rfl 0 (by decide) (hts (.fieldLink RX5 11 "MistHeaps$Hill" "sight" "I") kc_hillInit_4) (fun _ h9 => h9) rfl (by decide +kernel) rfl rfl (Nat.le_of_ble_eq_true rfl) dX5_init_6 (fun H locs hP hD hS => ?_)
  have hP : va_P (dC, dI) vwCl [(zo7iinnnniniii a0 3 0 0 0 0 0)] H := hP
  have hD : va_D A [(zo7iinnnniniii a0 3 0 0 0 0 0)] := hD
  refine lv_aload_n hx hb dX5_init_9 rfl (lv_at hl 0 rfl) ?_
  refine lv_bipush (v := 10) hx hb dX5_init_10 (by decide) ?_
  refine va_newa (atype := .int) (ty := .int) (N' := 10) (a0 := (10, .inl (fun _ => 0))) hx hb (hts (.arrayClass .int) kc_hillInit_5) rfl hK hP hD hS hA (fun _ => rfl) (by decide) (by decide) (by decide) (Nat.le_of_ble_eq_true rfl) (Nat.le_of_ble_eq_true rfl) dX5_init_12 (fun q_1 ca_2 H hK hP hD hS => ?_)
  have hP : va_P (dC, dI) vwCl [(zo7iinnnniniii a0 3 0 0 0 0 0), (zaI q_1 ca_2 10 (fun _ => 0))] H := hP
  have hD : va_D A [(zo7iinnnniniii a0 3 0 0 0 0 0), (zaI q_1 ca_2 10 (fun _ => 0))] := hD
  have hK : va_K (dC, dI) vwCl [(ca_2, .int)] s := hK
  refine W.widen (k := 1) (n := 10) (by omega) (by omega) ?_
  refine va_putF (D := (dC, dI)) (ci := 7) (v := .ref q_1) (ty := .array .int) (C := RX5) (T := TX5) (N := 11) hx hb hts kc_hillInit_3 tyX5 tyX5_ok nmX5 hown hK hP hD hS 0 rfl rfl 2 (by decide) (hts (.fieldLink RX5 15 "MistHeaps$Hill" "words" "[I") kc_hillInit_6) (fun _ h9 => h9) rfl hin rfl (by decide +kernel) rfl rfl (Nat.le_of_ble_eq_true rfl) dX5_init_14 (fun H locs hP hD hS => ?_)
  have hP : va_P (dC, dI) vwCl [(zo7iirnnniniii a0 3 0 q_1 0 0 0 0), (zaI q_1 ca_2 10 (fun _ => 0))] H := hP
  have hD : va_D A [(zo7iirnnniniii a0 3 0 q_1 0 0 0 0), (zaI q_1 ca_2 10 (fun _ => 0))] := hD
  refine lv_aload_n hx hb dX5_init_17 rfl (lv_at hl 0 rfl) ?_
  refine lv_bipush (v := 10) hx hb dX5_init_18 (by decide) ?_
  refine va_newa (atype := .int) (ty := .int) (N' := 10) (a0 := (10, .inl (fun _ => 0))) hx hb (hts (.arrayClass .int) kc_hillInit_5) rfl hK hP hD hS hA (fun _ => rfl) (by decide) (by decide) (by decide) (Nat.le_of_ble_eq_true rfl) (Nat.le_of_ble_eq_true rfl) dX5_init_20 (fun q_3 ca_4 H hK hP hD hS => ?_)
  have hP : va_P (dC, dI) vwCl [(zo7iirnnniniii a0 3 0 q_1 0 0 0 0), (zaI q_1 ca_2 10 (fun _ => 0)), (zaI q_3 ca_4 10 (fun _ => 0))] H := hP
  have hD : va_D A [(zo7iirnnniniii a0 3 0 q_1 0 0 0 0), (zaI q_1 ca_2 10 (fun _ => 0)), (zaI q_3 ca_4 10 (fun _ => 0))] := hD
  have hK : va_K (dC, dI) vwCl [(ca_2, .int), (ca_4, .int)] s := hK
  refine W.widen (k := 2) (n := 20) (by omega) (by omega) ?_
  refine va_putF (D := (dC, dI)) (ci := 7) (v := .ref q_3) (ty := .array .int) (C := RX5) (T := TX5) (N := 11) hx hb hts kc_hillInit_3 tyX5 tyX5_ok nmX5 hown hK hP hD hS 0 rfl rfl 3 (by decide) (hts (.fieldLink RX5 19 "MistHeaps$Hill" "amounts" "[I") kc_hillInit_7) (fun _ h9 => h9) rfl hin rfl (by decide +kernel) rfl rfl (Nat.le_of_ble_eq_true rfl) dX5_init_22 (fun H locs hP hD hS => ?_)
  have hP : va_P (dC, dI) vwCl [(zo7iirrnniniii a0 3 0 q_1 q_3 0 0 0 0), (zaI q_1 ca_2 10 (fun _ => 0)), (zaI q_3 ca_4 10 (fun _ => 0))] H := hP
  have hD : va_D A [(zo7iirrnniniii a0 3 0 q_1 q_3 0 0 0 0), (zaI q_1 ca_2 10 (fun _ => 0)), (zaI q_3 ca_4 10 (fun _ => 0))] := hD
  refine lv_aload_n hx hb dX5_init_25 rfl (lv_at hl 0 rfl) ?_
  refine lv_bipush (v := 10) hx hb dX5_init_26 (by decide) ?_
  refine va_newa (atype := .int) (ty := .int) (N' := 10) (a0 := (10, .inl (fun _ => 0))) hx hb (hts (.arrayClass .int) kc_hillInit_5) rfl hK hP hD hS hA (fun _ => rfl) (by decide) (by decide) (by decide) (Nat.le_of_ble_eq_true rfl) (Nat.le_of_ble_eq_true rfl) dX5_init_28 (fun q_5 ca_6 H hK hP hD hS => ?_)
  have hP : va_P (dC, dI) vwCl [(zo7iirrnniniii a0 3 0 q_1 q_3 0 0 0 0), (zaI q_1 ca_2 10 (fun _ => 0)), (zaI q_3 ca_4 10 (fun _ => 0)), (zaI q_5 ca_6 10 (fun _ => 0))] H := hP
  have hD : va_D A [(zo7iirrnniniii a0 3 0 q_1 q_3 0 0 0 0), (zaI q_1 ca_2 10 (fun _ => 0)), (zaI q_3 ca_4 10 (fun _ => 0)), (zaI q_5 ca_6 10 (fun _ => 0))] := hD
  have hK : va_K (dC, dI) vwCl [(ca_2, .int), (ca_4, .int), (ca_6, .int)] s := hK
  refine W.widen (k := 3) (n := 30) (by omega) (by omega) ?_
  refine va_putF (D := (dC, dI)) (ci := 7) (v := .ref q_5) (ty := .array .int) (C := RX5) (T := TX5) (N := 11) hx hb hts kc_hillInit_3 tyX5 tyX5_ok nmX5 hown hK hP hD hS 0 rfl rfl 4 (by decide) (hts (.fieldLink RX5 22 "MistHeaps$Hill" "ends" "[I") kc_hillInit_8) (fun _ h9 => h9) rfl hin rfl (by decide +kernel) rfl rfl (Nat.le_of_ble_eq_true rfl) dX5_init_30 (fun H locs hP hD hS => ?_)
  have hP : va_P (dC, dI) vwCl [(zo7iirrrniniii a0 3 0 q_1 q_3 q_5 0 0 0 0), (zaI q_1 ca_2 10 (fun _ => 0)), (zaI q_3 ca_4 10 (fun _ => 0)), (zaI q_5 ca_6 10 (fun _ => 0))] H := hP
  have hD : va_D A [(zo7iirrrniniii a0 3 0 q_1 q_3 q_5 0 0 0 0), (zaI q_1 ca_2 10 (fun _ => 0)), (zaI q_3 ca_4 10 (fun _ => 0)), (zaI q_5 ca_6 10 (fun _ => 0))] := hD
  refine lv_aload_n hx hb dX5_init_33 rfl (lv_at hl 0 rfl) ?_
  refine lv_bipush (v := 100) hx hb dX5_init_34 (by decide) ?_
  refine va_newa (atype := .int) (ty := .int) (N' := 100) (a0 := (100, .inl (fun _ => 0))) hx hb (hts (.arrayClass .int) kc_hillInit_5) rfl hK hP hD hS hA (fun _ => rfl) (by decide) (by decide) (by decide) (Nat.le_of_ble_eq_true rfl) (Nat.le_of_ble_eq_true rfl) dX5_init_36 (fun q_7 ca_8 H hK hP hD hS => ?_)
  have hP : va_P (dC, dI) vwCl [(zo7iirrrniniii a0 3 0 q_1 q_3 q_5 0 0 0 0), (zaI q_1 ca_2 10 (fun _ => 0)), (zaI q_3 ca_4 10 (fun _ => 0)), (zaI q_5 ca_6 10 (fun _ => 0)), (zaI q_7 ca_8 100 (fun _ => 0))] H := hP
  have hD : va_D A [(zo7iirrrniniii a0 3 0 q_1 q_3 q_5 0 0 0 0), (zaI q_1 ca_2 10 (fun _ => 0)), (zaI q_3 ca_4 10 (fun _ => 0)), (zaI q_5 ca_6 10 (fun _ => 0)), (zaI q_7 ca_8 100 (fun _ => 0))] := hD
  have hK : va_K (dC, dI) vwCl [(ca_2, .int), (ca_4, .int), (ca_6, .int), (ca_8, .int)] s := hK
  refine W.widen (k := 4) (n := 130) (by omega) (by omega) ?_
  refine va_putF (D := (dC, dI)) (ci := 7) (v := .ref q_7) (ty := .array .int) (C := RX5) (T := TX5) (N := 11) hx hb hts kc_hillInit_3 tyX5 tyX5_ok nmX5 hown hK hP hD hS 0 rfl rfl 5 (by decide) (hts (.fieldLink RX5 25 "MistHeaps$Hill" "codes" "[I") kc_hillInit_9) (fun _ h9 => h9) rfl hin rfl (by decide +kernel) rfl rfl (Nat.le_of_ble_eq_true rfl) dX5_init_38 (fun H locs hP hD hS => ?_)
  have hP : va_P (dC, dI) vwCl [(zo7iirrrriniii a0 3 0 q_1 q_3 q_5 q_7 0 0 0 0), (zaI q_1 ca_2 10 (fun _ => 0)), (zaI q_3 ca_4 10 (fun _ => 0)), (zaI q_5 ca_6 10 (fun _ => 0)), (zaI q_7 ca_8 100 (fun _ => 0))] H := hP
  have hD : va_D A [(zo7iirrrriniii a0 3 0 q_1 q_3 q_5 q_7 0 0 0 0), (zaI q_1 ca_2 10 (fun _ => 0)), (zaI q_3 ca_4 10 (fun _ => 0)), (zaI q_5 ca_6 10 (fun _ => 0)), (zaI q_7 ca_8 100 (fun _ => 0))] := hD
  rw [hQ]
  have hP9 := hP.sub (ws' := [(zo7iirrrriniii a0 3 0 q_1 q_3 q_5 q_7 0 0 0 0), (zaI q_1 ca_2 10 (fun _ => 0)), (zaI q_3 ca_4 10 (fun _ => 0)), (zaI q_5 ca_6 10 (fun _ => 0)), (zaI q_7 ca_8 100 (fun _ => 0))]) [0, 1, 2, 3, 4] rfl
  have hD9 := hD.sub (ws' := [(zo7iirrrriniii a0 3 0 q_1 q_3 q_5 q_7 0 0 0 0), (zaI q_1 ca_2 10 (fun _ => 0)), (zaI q_3 ca_4 10 (fun _ => 0)), (zaI q_5 ca_6 10 (fun _ => 0)), (zaI q_7 ca_8 100 (fun _ => 0))]) [0, 1, 2, 3, 4] (by decide) rfl
  have hK9 := hK.sub (tys' := [(ca_2, .int), (ca_4, .int), (ca_6, .int), (ca_8, .int)]) [0, 1, 2, 3] rfl
  exact W.vret hx hb hr (fun tQ htQ hWQ => ⟨⟨(), rfl, trivial, q_1, q_3, q_5, q_7, ca_2, ca_4, ca_6, ca_8, by rw [htQ]; exact hP9, va_K.moved hWQ.alike hK9, hD9⟩, hS.F htQ⟩) hS.2.2 dX5_init_41

theorem kc_sceneInit_0 : (.methodLink RX8 3 objectInit : Cond) ∈ wsX8_init := kc_of 106 rfl rfl rfl
theorem kc_sceneInit_1 : (.instanceMethod objectInit : Cond) ∈ wsX8_init := kc_of 99 rfl rfl rfl
theorem kc_sceneInit_2 : (.code objectInit ⟨#[0xb1]⟩ 1 none : Cond) ∈ wsX8_init := kc_of 100 rfl rfl rfl
theorem kc_sceneInit_3 : (.arrayClass .int : Cond) ∈ wsX8_init := kc_of 149 rfl rfl rfl
theorem kc_sceneInit_4 : ∀ w ∈ wsX80, w ∈ wsX8_init := fun w h => List.mem_cons_of_mem _ (gin_wsX80 w h)
theorem kc_sceneInit_5 : (.fieldLink RX8 9 "MistHeaps$Scene" "tape" "[I" : Cond) ∈ wsX8_init := kc_of 152 rfl rfl rfl
theorem kc_sceneInit_6 : ∀ w ∈ wsX50, w ∈ wsX8_init := fun w h => List.mem_cons_of_mem _ (gin_wsX50 w h)
theorem kc_sceneInit_7 : (.classLink RX8 15 RX5 : Cond) ∈ wsX8_init := kc_of 107 rfl rfl rfl
theorem kc_sceneInit_8 : (.instantiable RX5 11 : Cond) ∈ wsX8_init := kc_of 108 rfl rfl rfl
theorem kc_sceneInit_9 : (.initialized RX5 : Cond) ∈ wsX8_init := kc_of 65 rfl rfl rfl
theorem kc_sceneInit_10 : (.methodLink RX8 17 yX5_init : Cond) ∈ wsX8_init := kc_of 109 rfl rfl rfl
theorem kc_sceneInit_11 : (.instanceMethod yX5_init : Cond) ∈ wsX8_init := kc_of 110 rfl rfl rfl
theorem kc_sceneInit_12 : (.fieldLink RX8 18 "MistHeaps$Scene" "hill" "LMistHeaps$Hill;" : Cond) ∈ wsX8_init := kc_of 156 rfl rfl rfl
theorem kc_sceneInit_13 : (.classLink RX8 22 RX3 : Cond) ∈ wsX8_init := kc_of 150 rfl rfl rfl
theorem kc_sceneInit_14 : (.fieldLink RX8 24 "MistHeaps$Scene" "heaps" "[LMistHeaps$Heap;" : Cond) ∈ wsX8_init := kc_of 168 rfl rfl rfl
theorem kc_sceneInit_15 : (.fieldLink RX8 28 "MistHeaps$Scene" "walk" "[I" : Cond) ∈ wsX8_init := kc_of 174 rfl rfl rfl
theorem kc_sceneInit_16 : (.fieldLink RX8 31 "MistHeaps$Scene" "book" "[I" : Cond) ∈ wsX8_init := kc_of 180 rfl rfl rfl
theorem kc_sceneInit_17 : (.fieldLink RX8 34 "MistHeaps$Scene" "facts" "[I" : Cond) ∈ wsX8_init := kc_of 184 rfl rfl rfl
set_option maxHeartbeats 4000000 in
set_option maxRecDepth 100000 in
theorem c_sceneInit (l : Launch) (dC : Nat → ClassId) (dI : Nat → Nat → Nat) (bS : Nat) (a0 : Nat) (sz : Nat) : Met l yX8_init wsX8_init ({ frames := 2, cells := 10, slots := 273, locals := 32 } : Room) (va_Pc [.ref a0] (fun U => U.heap.size = sz ∧ va_P (dC, dI) vwCl [(zo10niniliinininin a0 0 0 0 0 0 0 0 0)] U.heap ∧ va_K (dC, dI) vwCl [] U ∧ va_D (fun _ => True) [(zo10niniliinininin a0 0 0 0 0 0 0 0 0)] ∧ Gc bS (va_A [(zo10niniliinininin a0 0 0 0 0 0 0 0 0)] sz) U)) (va_Qv (fun (u : Unit) => match u with | () => True) (fun (u : Unit) (t : State) => match u with | () => ∃ aTp : Nat, ∃ aHs : Nat, ∃ aWk : Nat, ∃ aBk : Nat, ∃ aFc : Nat, ∃ aHl : Nat, ∃ cTp : ClassId, ∃ cHs : ClassId, ∃ cWk : ClassId, ∃ cBk : ClassId, ∃ cFc : ClassId, ∃ bW : Nat, ∃ bA : Nat, ∃ bE : Nat, ∃ bC : Nat, ∃ cbW : ClassId, ∃ cbA : ClassId, ∃ cbE : ClassId, ∃ cbC : ClassId, va_P (dC, dI) vwCl [(zo10ririliiriririr a0 aTp 0 aHl 0 0 0 0 aHs 0 aWk 0 aBk 0 aFc), (zaI aTp cTp 100 (fun _ => 0)), (zaR aHs cHs 8 (fun _ => none)), (zaI aWk cWk 6 (fun _ => 0)), (zaI aBk cBk 12 (fun _ => 0)), (zaI aFc cFc 6 (fun _ => 0)), (zo7iirrrriniii aHl 3 0 bW bA bE bC 0 0 0 0), (zaI bW cbW 10 (fun _ => 0)), (zaI bA cbA 10 (fun _ => 0)), (zaI bE cbE 10 (fun _ => 0)), (zaI bC cbC 100 (fun _ => 0))] t.heap ∧ va_K (dC, dI) vwCl [(cTp, .int), (cHs, .object "MistHeaps$Heap"), (cWk, .int), (cBk, .int), (cFc, .int), (cbW, .int), (cbA, .int), (cbE, .int), (cbC, .int)] t ∧ va_D (va_A [(zo10niniliinininin a0 0 0 0 0 0 0 0 0)] sz) [(zo10ririliiriririr a0 aTp 0 aHl 0 0 0 0 aHs 0 aWk 0 aBk 0 aFc), (zaI aTp cTp 100 (fun _ => 0)), (zaR aHs cHs 8 (fun _ => none)), (zaI aWk cWk 6 (fun _ => 0)), (zaI aBk cBk 12 (fun _ => 0)), (zaI aFc cFc 6 (fun _ => 0)), (zo7iirrrriniii aHl 3 0 bW bA bE bC 0 0 0 0), (zaI bW cbW 10 (fun _ => 0)), (zaI bA cbA 10 (fun _ => 0)), (zaI bE cbE 10 (fun _ => 0)), (zaI bC cbC 100 (fun _ => 0))]) (va_A [(zo10niniliinininin a0 0 0 0 0 0 0 0 0)] sz)) 10 273 (va_A [(zo10niniliinininin a0 0 0 0 0 0 0 0 0)] sz) := by
  refine met_ofQ (cc := cX8_init) (maxL := 1) (ret := none) (by decide) rfl ?_
  intro p e s m args below meth c s₁ Q B hml hv hQ
  obtain ⟨rfl, hsz, hP, hK, hD0, hC⟩ := hv
  have hx := B.exec
  have hb := B.bytes
  have hr := B.returns
  have hts := atoms_spec (ws := wsX8_init) B.pre
  have hown : s.vm.findClass RX8 = some m.cls := findClass_of_methodNamed B.named
  have hlocks := B.notSynchronized
  have hin : meth.name = "<init>" := (name_of_methodNamed B.named B.method).1
  subst hsz
  have hD := hD0.self (sz := s.heap.size)
  generalize hAe : va_A [(zo10niniliinininin a0 0 0 0 0 0 0 0 0)] s.heap.size = A at hD hQ hC ⊢
  have hA : ∀ q : Nat, s.heap.size ≤ q → A q := fun q h => by rw [← hAe]; exact Or.inr h
  have hS : va_S A s.heap s.heap [] := va_S.rf
  have hl := lv_entry [.ref a0] (n := 1) (Nat.le_of_ble_eq_true rfl)
  rw [lg_entry_eq]
  generalize (lg_sl [.ref a0] ++ List.replicate (1 - (lg_sl [.ref a0]).length) Slot.unset).toArray = ls at hl ⊢
  generalize hag : ([.ref a0] : List Value).toArray = args at hts hQ ⊢
  have hl : lv_has ls 1 [(0, .ref a0)] := hl
  obtain ⟨H, hH⟩ : ∃ H : Heap, H = s.heap := ⟨_, rfl⟩
  rw [← hH] at hP
  rw [← hH]
  have hS : va_S A s.heap H [] := by rw [hH]; exact hS
  obtain ⟨locs, hlo⟩ : ∃ L : List Loc, L = [] := ⟨_, rfl⟩
  rw [← hlo] at hS
  rw [← hlo]
  clear hH hlo
  refine lv_aload_n hx hb dX8_init_0 rfl (lv_at hl 0 rfl) ?_
  refine W.objInit hx hb hown (hts (.methodLink RX8 3 objectInit) kc_sceneInit_0) (hts (.instanceMethod objectInit) kc_sceneInit_1) (hts (.code objectInit ⟨#[0xb1]⟩ 1 none) kc_sceneInit_2) rfl (by rw [hml]; exact hl.1) rfl dX8_init_1 (Nat.le_of_ble_eq_true rfl) (Nat.le_of_ble_eq_true rfl) ?_
  refine W.eq (g2 := F0 m 4 ls []) rfl ?_
  refine lv_aload_n hx hb dX8_init_4 rfl (lv_at hl 0 rfl) ?_
  refine lv_bipush (v := 100) hx hb dX8_init_5 (by decide) ?_
  refine va_newa (atype := .int) (ty := .int) (N' := 100) (a0 := (100, .inl (fun _ => 0))) hx hb (hts (.arrayClass .int) kc_sceneInit_3) rfl hK hP hD hS hA (fun _ => rfl) (by decide) (by decide) (by decide) (Nat.le_of_ble_eq_true rfl) (Nat.le_of_ble_eq_true rfl) dX8_init_7 (fun q_1 ca_2 H hK hP hD hS => ?_)
  have hP : va_P (dC, dI) vwCl [(zo10niniliinininin a0 0 0 0 0 0 0 0 0), (zaI q_1 ca_2 100 (fun _ => 0))] H := hP
  have hD : va_D A [(zo10niniliinininin a0 0 0 0 0 0 0 0 0), (zaI q_1 ca_2 100 (fun _ => 0))] := hD
  have hK : va_K (dC, dI) vwCl [(ca_2, .int)] s := hK
  refine W.widen (k := 1) (n := 100) (by omega) (by omega) ?_
  refine va_putF (D := (dC, dI)) (ci := 10) (v := .ref q_1) (ty := .array .int) (C := RX8) (T := TX8) (N := 14) hx hb hts kc_sceneInit_4 tyX8 tyX8_ok nmX8 hown hK hP hD hS 0 rfl rfl 0 (by decide) (hts (.fieldLink RX8 9 "MistHeaps$Scene" "tape" "[I") kc_sceneInit_5) (fun _ h9 => h9) rfl hin rfl (by decide +kernel) rfl rfl (Nat.le_of_ble_eq_true rfl) dX8_init_9 (fun H locs hP hD hS => ?_)
  have hP : va_P (dC, dI) vwCl [(zo10riniliinininin a0 q_1 0 0 0 0 0 0 0 0), (zaI q_1 ca_2 100 (fun _ => 0))] H := hP
  have hD : va_D A [(zo10riniliinininin a0 q_1 0 0 0 0 0 0 0 0), (zaI q_1 ca_2 100 (fun _ => 0))] := hD
  refine lv_aload_n hx hb dX8_init_12 rfl (lv_at hl 0 rfl) ?_
  refine va_new (ci := 7) (fs := [.int 0, .int 0, .null, .null, .null, .null, .int 0, .null, .int 0, .int 0, .int 0]) (C := RX5) (T := TX5) (N := 11) hx hb hts kc_sceneInit_6 tyX5 tyX5_ok hown (hts (.classLink RX8 15 RX5) kc_sceneInit_7) (hts (.instantiable RX5 11) kc_sceneInit_8) (hts (.initialized RX5) kc_sceneInit_9) hK hP hD hS hA rfl (fun j hj => by rcases (show j = 0 ∨ j = 1 ∨ j = 2 ∨ j = 3 ∨ j = 4 ∨ j = 5 ∨ j = 6 ∨ j = 7 ∨ j = 8 ∨ j = 9 ∨ j = 10 by omega) with rfl | rfl | rfl | rfl | rfl | rfl | rfl | rfl | rfl | rfl | rfl <;> rfl) (Nat.le_of_ble_eq_true rfl) (Nat.le_of_ble_eq_true rfl) dX8_init_13 (fun q_3 H hP hD hS => ?_)
  have hP : va_P (dC, dI) vwCl [(zo10riniliinininin a0 q_1 0 0 0 0 0 0 0 0), (zaI q_1 ca_2 100 (fun _ => 0)), (zo7iinnnniniii q_3 0 0 0 0 0 0)] H := hP
  have hD : va_D A [(zo10riniliinininin a0 q_1 0 0 0 0 0 0 0 0), (zaI q_1 ca_2 100 (fun _ => 0)), (zo7iinnnniniii q_3 0 0 0 0 0 0)] := hD
  refine W.widen (k := 2) (n := 111) (by omega) (by omega) ?_
  refine lv_dup hx hb dX8_init_16 rfl ?_
  have hPc := hP.sub (ws' := [(zo7iinnnniniii q_3 0 0 0 0 0 0)]) [2] rfl
  have hDc := hD.sub (ws' := [(zo7iinnnniniii q_3 0 0 0 0 0 0)]) [2] (by decide) rfl
  have hKc := hK.sub (tys' := []) [] rfl
  have hFc := va_free (wc := [(zo7iinnnniniii q_3 0 0 0 0 0 0)]) hD hS hA [2] rfl
  refine va_callv (va_runI (As := []) (rest := [.ref q_3, .ref a0]) ⟨hx, hb, hml, hown, hts⟩ (c_hillInit l dC dI q_3 H.size) (cwI 0 hts ggX8_init_X5_init rfl rfl rfl (hts (.initialized RX5) kc_sceneInit_9) (hts (.methodLink RX8 17 yX5_init) kc_sceneInit_10) (hts (.instanceMethod yX5_init) kc_sceneInit_11) rfl (by decide +kernel) ⟨Nat.le_of_ble_eq_true rfl, Nat.le_of_ble_eq_true rfl⟩) ⟨fun a U g mk q => by obtain ⟨q0, q1, qP, qK, qD⟩ := q; exact ⟨q0, mvz g mk a q1, mvP g mk a qP, mvK g mk a qK, qD⟩, fun U hU hW => ⟨rfl, by rw [hU], by rw [hU]; exact hPc, va_K.moved hW.alike hKc, hDc.weaken (fun _ _ _ _ => trivial)⟩⟩ rfl rfl hl.1 rfl (lv_room (Nat.le_of_ble_eq_true rfl)) dX8_init_17 ⟨Nat.le_of_ble_eq_true rfl, Nat.le_of_ble_eq_true rfl⟩) hS (fun q _ h => hFc q h) hFc (fun u tC H1 locs htC hvm hw_5 hB hz1 hk1 hS => ?_)
  obtain ⟨⟩ := u
  try dsimp only at hw_5 hB
  obtain ⟨bW_6, bA_7, bE_8, bC_9, cbW_10, cbA_11, cbE_12, cbC_13, hP1, hK1, hD1⟩ := hB
  rw [htC] at hP1
  have hK1 := va_K.moved hvm.symm hK1
  obtain ⟨hP, hD⟩ := va_join (wr := [(zo10riniliinininin a0 q_1 0 0 0 0 0 0 0 0), (zaI q_1 ca_2 100 (fun _ => 0))]) (w1 := [(zo7iirrrriniii q_3 3 0 bW_6 bA_7 bE_8 bC_9 0 0 0 0), (zaI bW_6 cbW_10 10 (fun _ => 0)), (zaI bA_7 cbA_11 10 (fun _ => 0)), (zaI bE_8 cbE_12 10 (fun _ => 0)), (zaI bC_9 cbC_13 100 (fun _ => 0))]) hP hD [2] [0, 1] rfl rfl (by decide) (by decide) hk1 hFc hP1 hD1
  have hK := (hK.sub (tys' := [(ca_2, .int)]) [0] rfl).app hK1
  generalize H1 = H at hP hS ⊢
  have hP : va_P (dC, dI) vwCl [(zo10riniliinininin a0 q_1 0 0 0 0 0 0 0 0), (zaI q_1 ca_2 100 (fun _ => 0)), (zo7iirrrriniii q_3 3 0 bW_6 bA_7 bE_8 bC_9 0 0 0 0), (zaI bW_6 cbW_10 10 (fun _ => 0)), (zaI bA_7 cbA_11 10 (fun _ => 0)), (zaI bE_8 cbE_12 10 (fun _ => 0)), (zaI bC_9 cbC_13 100 (fun _ => 0))] H := hP
  have hD : va_D A [(zo10riniliinininin a0 q_1 0 0 0 0 0 0 0 0), (zaI q_1 ca_2 100 (fun _ => 0)), (zo7iirrrriniii q_3 3 0 bW_6 bA_7 bE_8 bC_9 0 0 0 0), (zaI bW_6 cbW_10 10 (fun _ => 0)), (zaI bA_7 cbA_11 10 (fun _ => 0)), (zaI bE_8 cbE_12 10 (fun _ => 0)), (zaI bC_9 cbC_13 100 (fun _ => 0))] := hD
  have hK : va_K (dC, dI) vwCl [(ca_2, .int), (cbW_10, .int), (cbA_11, .int), (cbE_12, .int), (cbC_13, .int)] s := hK
  refine W.widen (k := 6) (n := 241) (by omega) (by omega) ?_
  refine va_put (D := (dC, dI)) (ci := 10) (v := .ref q_3) (ty := .object "MistHeaps$Hill") (C := RX8) (T := TX8) (N := 14) hx hb hts kc_sceneInit_4 tyX8 tyX8_ok nmX8 hown hK hP hD hS 0 rfl rfl 2 (by decide) (hts (.fieldLink RX8 18 "MistHeaps$Scene" "hill" "LMistHeaps$Hill;") kc_sceneInit_12) (fun _ h9 => h9) rfl (by decide +kernel) rfl rfl (Nat.le_of_ble_eq_true rfl) dX8_init_20 (fun H locs hP hD hS => ?_)
  have hP : va_P (dC, dI) vwCl [(zo10ririliinininin a0 q_1 0 q_3 0 0 0 0 0 0 0), (zaI q_1 ca_2 100 (fun _ => 0)), (zo7iirrrriniii q_3 3 0 bW_6 bA_7 bE_8 bC_9 0 0 0 0), (zaI bW_6 cbW_10 10 (fun _ => 0)), (zaI bA_7 cbA_11 10 (fun _ => 0)), (zaI bE_8 cbE_12 10 (fun _ => 0)), (zaI bC_9 cbC_13 100 (fun _ => 0))] H := hP
  have hD : va_D A [(zo10ririliinininin a0 q_1 0 q_3 0 0 0 0 0 0 0), (zaI q_1 ca_2 100 (fun _ => 0)), (zo7iirrrriniii q_3 3 0 bW_6 bA_7 bE_8 bC_9 0 0 0 0), (zaI bW_6 cbW_10 10 (fun _ => 0)), (zaI bA_7 cbA_11 10 (fun _ => 0)), (zaI bE_8 cbE_12 10 (fun _ => 0)), (zaI bC_9 cbC_13 100 (fun _ => 0))] := hD
  refine lv_aload_n hx hb dX8_init_23 rfl (lv_at hl 0 rfl) ?_
  refine lv_bipush (v := 8) hx hb dX8_init_24 (by decide) ?_
  refine va_newq (C := "MistHeaps$Heap") (N' := 8) hx hb hown (hts (.classLink RX8 22 RX3) kc_sceneInit_13) hC.1 hK hP hD hS hA (by decide) (by decide) (by decide) (Nat.le_of_ble_eq_true rfl) (Nat.le_of_ble_eq_true rfl) dX8_init_26 (fun q_14 ca_15 H hK hP hD hS => ?_)
  have hP : va_P (dC, dI) vwCl [(zo10ririliinininin a0 q_1 0 q_3 0 0 0 0 0 0 0), (zaI q_1 ca_2 100 (fun _ => 0)), (zo7iirrrriniii q_3 3 0 bW_6 bA_7 bE_8 bC_9 0 0 0 0), (zaI bW_6 cbW_10 10 (fun _ => 0)), (zaI bA_7 cbA_11 10 (fun _ => 0)), (zaI bE_8 cbE_12 10 (fun _ => 0)), (zaI bC_9 cbC_13 100 (fun _ => 0)), (zaR q_14 ca_15 8 (fun _ => none))] H := hP
  have hD : va_D A [(zo10ririliinininin a0 q_1 0 q_3 0 0 0 0 0 0 0), (zaI q_1 ca_2 100 (fun _ => 0)), (zo7iirrrriniii q_3 3 0 bW_6 bA_7 bE_8 bC_9 0 0 0 0), (zaI bW_6 cbW_10 10 (fun _ => 0)), (zaI bA_7 cbA_11 10 (fun _ => 0)), (zaI bE_8 cbE_12 10 (fun _ => 0)), (zaI bC_9 cbC_13 100 (fun _ => 0)), (zaR q_14 ca_15 8 (fun _ => none))] := hD
  have hK : va_K (dC, dI) vwCl [(ca_2, .int), (cbW_10, .int), (cbA_11, .int), (cbE_12, .int), (cbC_13, .int), (ca_15, .object "MistHeaps$Heap")] s := hK
  refine W.widen (k := 7) (n := 249) (by omega) (by omega) ?_
  refine va_putF (D := (dC, dI)) (ci := 10) (v := .ref q_14) (ty := .array (.object "MistHeaps$Heap")) (C := RX8) (T := TX8) (N := 14) hx hb hts kc_sceneInit_4 tyX8 tyX8_ok nmX8 hown hK hP hD hS 0 rfl rfl 7 (by decide) (hts (.fieldLink RX8 24 "MistHeaps$Scene" "heaps" "[LMistHeaps$Heap;") kc_sceneInit_14) (fun _ h9 => h9) rfl hin rfl (by decide +kernel) rfl rfl (Nat.le_of_ble_eq_true rfl) dX8_init_29 (fun H locs hP hD hS => ?_)
  have hP : va_P (dC, dI) vwCl [(zo10ririliirininin a0 q_1 0 q_3 0 0 0 0 q_14 0 0 0), (zaI q_1 ca_2 100 (fun _ => 0)), (zo7iirrrriniii q_3 3 0 bW_6 bA_7 bE_8 bC_9 0 0 0 0), (zaI bW_6 cbW_10 10 (fun _ => 0)), (zaI bA_7 cbA_11 10 (fun _ => 0)), (zaI bE_8 cbE_12 10 (fun _ => 0)), (zaI bC_9 cbC_13 100 (fun _ => 0)), (zaR q_14 ca_15 8 (fun _ => none))] H := hP
  have hD : va_D A [(zo10ririliirininin a0 q_1 0 q_3 0 0 0 0 q_14 0 0 0), (zaI q_1 ca_2 100 (fun _ => 0)), (zo7iirrrriniii q_3 3 0 bW_6 bA_7 bE_8 bC_9 0 0 0 0), (zaI bW_6 cbW_10 10 (fun _ => 0)), (zaI bA_7 cbA_11 10 (fun _ => 0)), (zaI bE_8 cbE_12 10 (fun _ => 0)), (zaI bC_9 cbC_13 100 (fun _ => 0)), (zaR q_14 ca_15 8 (fun _ => none))] := hD
  refine lv_aload_n hx hb dX8_init_32 rfl (lv_at hl 0 rfl) ?_
  refine lv_bipush (v := 6) hx hb dX8_init_33 (by decide) ?_
  refine va_newa (atype := .int) (ty := .int) (N' := 6) (a0 := (6, .inl (fun _ => 0))) hx hb (hts (.arrayClass .int) kc_sceneInit_3) rfl hK hP hD hS hA (fun _ => rfl) (by decide) (by decide) (by decide) (Nat.le_of_ble_eq_true rfl) (Nat.le_of_ble_eq_true rfl) dX8_init_35 (fun q_16 ca_17 H hK hP hD hS => ?_)
  have hP : va_P (dC, dI) vwCl [(zo10ririliirininin a0 q_1 0 q_3 0 0 0 0 q_14 0 0 0), (zaI q_1 ca_2 100 (fun _ => 0)), (zo7iirrrriniii q_3 3 0 bW_6 bA_7 bE_8 bC_9 0 0 0 0), (zaI bW_6 cbW_10 10 (fun _ => 0)), (zaI bA_7 cbA_11 10 (fun _ => 0)), (zaI bE_8 cbE_12 10 (fun _ => 0)), (zaI bC_9 cbC_13 100 (fun _ => 0)), (zaR q_14 ca_15 8 (fun _ => none)), (zaI q_16 ca_17 6 (fun _ => 0))] H := hP
  have hD : va_D A [(zo10ririliirininin a0 q_1 0 q_3 0 0 0 0 q_14 0 0 0), (zaI q_1 ca_2 100 (fun _ => 0)), (zo7iirrrriniii q_3 3 0 bW_6 bA_7 bE_8 bC_9 0 0 0 0), (zaI bW_6 cbW_10 10 (fun _ => 0)), (zaI bA_7 cbA_11 10 (fun _ => 0)), (zaI bE_8 cbE_12 10 (fun _ => 0)), (zaI bC_9 cbC_13 100 (fun _ => 0)), (zaR q_14 ca_15 8 (fun _ => none)), (zaI q_16 ca_17 6 (fun _ => 0))] := hD
  have hK : va_K (dC, dI) vwCl [(ca_2, .int), (cbW_10, .int), (cbA_11, .int), (cbE_12, .int), (cbC_13, .int), (ca_15, .object "MistHeaps$Heap"), (ca_17, .int)] s := hK
  refine W.widen (k := 8) (n := 255) (by omega) (by omega) ?_
  refine va_putF (D := (dC, dI)) (ci := 10) (v := .ref q_16) (ty := .array .int) (C := RX8) (T := TX8) (N := 14) hx hb hts kc_sceneInit_4 tyX8 tyX8_ok nmX8 hown hK hP hD hS 0 rfl rfl 9 (by decide) (hts (.fieldLink RX8 28 "MistHeaps$Scene" "walk" "[I") kc_sceneInit_15) (fun _ h9 => h9) rfl hin rfl (by decide +kernel) rfl rfl (Nat.le_of_ble_eq_true rfl) dX8_init_37 (fun H locs hP hD hS => ?_)
  have hP : va_P (dC, dI) vwCl [(zo10ririliiririnin a0 q_1 0 q_3 0 0 0 0 q_14 0 q_16 0 0), (zaI q_1 ca_2 100 (fun _ => 0)), (zo7iirrrriniii q_3 3 0 bW_6 bA_7 bE_8 bC_9 0 0 0 0), (zaI bW_6 cbW_10 10 (fun _ => 0)), (zaI bA_7 cbA_11 10 (fun _ => 0)), (zaI bE_8 cbE_12 10 (fun _ => 0)), (zaI bC_9 cbC_13 100 (fun _ => 0)), (zaR q_14 ca_15 8 (fun _ => none)), (zaI q_16 ca_17 6 (fun _ => 0))] H := hP
  have hD : va_D A [(zo10ririliiririnin a0 q_1 0 q_3 0 0 0 0 q_14 0 q_16 0 0), (zaI q_1 ca_2 100 (fun _ => 0)), (zo7iirrrriniii q_3 3 0 bW_6 bA_7 bE_8 bC_9 0 0 0 0), (zaI bW_6 cbW_10 10 (fun _ => 0)), (zaI bA_7 cbA_11 10 (fun _ => 0)), (zaI bE_8 cbE_12 10 (fun _ => 0)), (zaI bC_9 cbC_13 100 (fun _ => 0)), (zaR q_14 ca_15 8 (fun _ => none)), (zaI q_16 ca_17 6 (fun _ => 0))] := hD
  refine lv_aload_n hx hb dX8_init_40 rfl (lv_at hl 0 rfl) ?_
  refine lv_bipush (v := 12) hx hb dX8_init_41 (by decide) ?_
  refine va_newa (atype := .int) (ty := .int) (N' := 12) (a0 := (12, .inl (fun _ => 0))) hx hb (hts (.arrayClass .int) kc_sceneInit_3) rfl hK hP hD hS hA (fun _ => rfl) (by decide) (by decide) (by decide) (Nat.le_of_ble_eq_true rfl) (Nat.le_of_ble_eq_true rfl) dX8_init_43 (fun q_18 ca_19 H hK hP hD hS => ?_)
  have hP : va_P (dC, dI) vwCl [(zo10ririliiririnin a0 q_1 0 q_3 0 0 0 0 q_14 0 q_16 0 0), (zaI q_1 ca_2 100 (fun _ => 0)), (zo7iirrrriniii q_3 3 0 bW_6 bA_7 bE_8 bC_9 0 0 0 0), (zaI bW_6 cbW_10 10 (fun _ => 0)), (zaI bA_7 cbA_11 10 (fun _ => 0)), (zaI bE_8 cbE_12 10 (fun _ => 0)), (zaI bC_9 cbC_13 100 (fun _ => 0)), (zaR q_14 ca_15 8 (fun _ => none)), (zaI q_16 ca_17 6 (fun _ => 0)), (zaI q_18 ca_19 12 (fun _ => 0))] H := hP
  have hD : va_D A [(zo10ririliiririnin a0 q_1 0 q_3 0 0 0 0 q_14 0 q_16 0 0), (zaI q_1 ca_2 100 (fun _ => 0)), (zo7iirrrriniii q_3 3 0 bW_6 bA_7 bE_8 bC_9 0 0 0 0), (zaI bW_6 cbW_10 10 (fun _ => 0)), (zaI bA_7 cbA_11 10 (fun _ => 0)), (zaI bE_8 cbE_12 10 (fun _ => 0)), (zaI bC_9 cbC_13 100 (fun _ => 0)), (zaR q_14 ca_15 8 (fun _ => none)), (zaI q_16 ca_17 6 (fun _ => 0)), (zaI q_18 ca_19 12 (fun _ => 0))] := hD
  have hK : va_K (dC, dI) vwCl [(ca_2, .int), (cbW_10, .int), (cbA_11, .int), (cbE_12, .int), (cbC_13, .int), (ca_15, .object "MistHeaps$Heap"), (ca_17, .int), (ca_19, .int)] s := hK
  refine W.widen (k := 9) (n := 267) (by omega) (by omega) ?_
  refine va_putF (D := (dC, dI)) (ci := 10) (v := .ref q_18) (ty := .array .int) (C := RX8) (T := TX8) (N := 14) hx hb hts kc_sceneInit_4 tyX8 tyX8_ok nmX8 hown hK hP hD hS 0 rfl rfl 11 (by decide) (hts (.fieldLink RX8 31 "MistHeaps$Scene" "book" "[I") kc_sceneInit_16) (fun _ h9 => h9) rfl hin rfl (by decide +kernel) rfl rfl (Nat.le_of_ble_eq_true rfl) dX8_init_45 (fun H locs hP hD hS => ?_)
  have hP : va_P (dC, dI) vwCl [(zo10ririliiriririn a0 q_1 0 q_3 0 0 0 0 q_14 0 q_16 0 q_18 0), (zaI q_1 ca_2 100 (fun _ => 0)), (zo7iirrrriniii q_3 3 0 bW_6 bA_7 bE_8 bC_9 0 0 0 0), (zaI bW_6 cbW_10 10 (fun _ => 0)), (zaI bA_7 cbA_11 10 (fun _ => 0)), (zaI bE_8 cbE_12 10 (fun _ => 0)), (zaI bC_9 cbC_13 100 (fun _ => 0)), (zaR q_14 ca_15 8 (fun _ => none)), (zaI q_16 ca_17 6 (fun _ => 0)), (zaI q_18 ca_19 12 (fun _ => 0))] H := hP
  have hD : va_D A [(zo10ririliiriririn a0 q_1 0 q_3 0 0 0 0 q_14 0 q_16 0 q_18 0), (zaI q_1 ca_2 100 (fun _ => 0)), (zo7iirrrriniii q_3 3 0 bW_6 bA_7 bE_8 bC_9 0 0 0 0), (zaI bW_6 cbW_10 10 (fun _ => 0)), (zaI bA_7 cbA_11 10 (fun _ => 0)), (zaI bE_8 cbE_12 10 (fun _ => 0)), (zaI bC_9 cbC_13 100 (fun _ => 0)), (zaR q_14 ca_15 8 (fun _ => none)), (zaI q_16 ca_17 6 (fun _ => 0)), (zaI q_18 ca_19 12 (fun _ => 0))] := hD
  refine lv_aload_n hx hb dX8_init_48 rfl (lv_at hl 0 rfl) ?_
  refine lv_bipush (v := 6) hx hb dX8_init_49 (by decide) ?_
  refine va_newa (atype := .int) (ty := .int) (N' := 6) (a0 := (6, .inl (fun _ => 0))) hx hb (hts (.arrayClass .int) kc_sceneInit_3) rfl hK hP hD hS hA (fun _ => rfl) (by decide) (by decide) (by decide) (Nat.le_of_ble_eq_true rfl) (Nat.le_of_ble_eq_true rfl) dX8_init_51 (fun q_20 ca_21 H hK hP hD hS => ?_)
  have hP : va_P (dC, dI) vwCl [(zo10ririliiriririn a0 q_1 0 q_3 0 0 0 0 q_14 0 q_16 0 q_18 0), (zaI q_1 ca_2 100 (fun _ => 0)), (zo7iirrrriniii q_3 3 0 bW_6 bA_7 bE_8 bC_9 0 0 0 0), (zaI bW_6 cbW_10 10 (fun _ => 0)), (zaI bA_7 cbA_11 10 (fun _ => 0)), (zaI bE_8 cbE_12 10 (fun _ => 0)), (zaI bC_9 cbC_13 100 (fun _ => 0)), (zaR q_14 ca_15 8 (fun _ => none)), (zaI q_16 ca_17 6 (fun _ => 0)), (zaI q_18 ca_19 12 (fun _ => 0)), (zaI q_20 ca_21 6 (fun _ => 0))] H := hP
  have hD : va_D A [(zo10ririliiriririn a0 q_1 0 q_3 0 0 0 0 q_14 0 q_16 0 q_18 0), (zaI q_1 ca_2 100 (fun _ => 0)), (zo7iirrrriniii q_3 3 0 bW_6 bA_7 bE_8 bC_9 0 0 0 0), (zaI bW_6 cbW_10 10 (fun _ => 0)), (zaI bA_7 cbA_11 10 (fun _ => 0)), (zaI bE_8 cbE_12 10 (fun _ => 0)), (zaI bC_9 cbC_13 100 (fun _ => 0)), (zaR q_14 ca_15 8 (fun _ => none)), (zaI q_16 ca_17 6 (fun _ => 0)), (zaI q_18 ca_19 12 (fun _ => 0)), (zaI q_20 ca_21 6 (fun _ => 0))] := hD
  have hK : va_K (dC, dI) vwCl [(ca_2, .int), (cbW_10, .int), (cbA_11, .int), (cbE_12, .int), (cbC_13, .int), (ca_15, .object "MistHeaps$Heap"), (ca_17, .int), (ca_19, .int), (ca_21, .int)] s := hK
  refine W.widen (k := 10) (n := 273) (by omega) (by omega) ?_
  refine va_putF (D := (dC, dI)) (ci := 10) (v := .ref q_20) (ty := .array .int) (C := RX8) (T := TX8) (N := 14) hx hb hts kc_sceneInit_4 tyX8 tyX8_ok nmX8 hown hK hP hD hS 0 rfl rfl 13 (by decide) (hts (.fieldLink RX8 34 "MistHeaps$Scene" "facts" "[I") kc_sceneInit_17) (fun _ h9 => h9) rfl hin rfl (by decide +kernel) rfl rfl (Nat.le_of_ble_eq_true rfl) dX8_init_53 (fun H locs hP hD hS => ?_)
  have hP : va_P (dC, dI) vwCl [(zo10ririliiriririr a0 q_1 0 q_3 0 0 0 0 q_14 0 q_16 0 q_18 0 q_20), (zaI q_1 ca_2 100 (fun _ => 0)), (zo7iirrrriniii q_3 3 0 bW_6 bA_7 bE_8 bC_9 0 0 0 0), (zaI bW_6 cbW_10 10 (fun _ => 0)), (zaI bA_7 cbA_11 10 (fun _ => 0)), (zaI bE_8 cbE_12 10 (fun _ => 0)), (zaI bC_9 cbC_13 100 (fun _ => 0)), (zaR q_14 ca_15 8 (fun _ => none)), (zaI q_16 ca_17 6 (fun _ => 0)), (zaI q_18 ca_19 12 (fun _ => 0)), (zaI q_20 ca_21 6 (fun _ => 0))] H := hP
  have hD : va_D A [(zo10ririliiriririr a0 q_1 0 q_3 0 0 0 0 q_14 0 q_16 0 q_18 0 q_20), (zaI q_1 ca_2 100 (fun _ => 0)), (zo7iirrrriniii q_3 3 0 bW_6 bA_7 bE_8 bC_9 0 0 0 0), (zaI bW_6 cbW_10 10 (fun _ => 0)), (zaI bA_7 cbA_11 10 (fun _ => 0)), (zaI bE_8 cbE_12 10 (fun _ => 0)), (zaI bC_9 cbC_13 100 (fun _ => 0)), (zaR q_14 ca_15 8 (fun _ => none)), (zaI q_16 ca_17 6 (fun _ => 0)), (zaI q_18 ca_19 12 (fun _ => 0)), (zaI q_20 ca_21 6 (fun _ => 0))] := hD
  rw [hQ]
  have hP9 := hP.sub (ws' := [(zo10ririliiriririr a0 q_1 0 q_3 0 0 0 0 q_14 0 q_16 0 q_18 0 q_20), (zaI q_1 ca_2 100 (fun _ => 0)), (zaR q_14 ca_15 8 (fun _ => none)), (zaI q_16 ca_17 6 (fun _ => 0)), (zaI q_18 ca_19 12 (fun _ => 0)), (zaI q_20 ca_21 6 (fun _ => 0)), (zo7iirrrriniii q_3 3 0 bW_6 bA_7 bE_8 bC_9 0 0 0 0), (zaI bW_6 cbW_10 10 (fun _ => 0)), (zaI bA_7 cbA_11 10 (fun _ => 0)), (zaI bE_8 cbE_12 10 (fun _ => 0)), (zaI bC_9 cbC_13 100 (fun _ => 0))]) [0, 1, 7, 8, 9, 10, 2, 3, 4, 5, 6] rfl
  have hD9 := hD.sub (ws' := [(zo10ririliiriririr a0 q_1 0 q_3 0 0 0 0 q_14 0 q_16 0 q_18 0 q_20), (zaI q_1 ca_2 100 (fun _ => 0)), (zaR q_14 ca_15 8 (fun _ => none)), (zaI q_16 ca_17 6 (fun _ => 0)), (zaI q_18 ca_19 12 (fun _ => 0)), (zaI q_20 ca_21 6 (fun _ => 0)), (zo7iirrrriniii q_3 3 0 bW_6 bA_7 bE_8 bC_9 0 0 0 0), (zaI bW_6 cbW_10 10 (fun _ => 0)), (zaI bA_7 cbA_11 10 (fun _ => 0)), (zaI bE_8 cbE_12 10 (fun _ => 0)), (zaI bC_9 cbC_13 100 (fun _ => 0))]) [0, 1, 7, 8, 9, 10, 2, 3, 4, 5, 6] (by decide) rfl
  have hK9 := hK.sub (tys' := [(ca_2, .int), (ca_15, .object "MistHeaps$Heap"), (ca_17, .int), (ca_19, .int), (ca_21, .int), (cbW_10, .int), (cbA_11, .int), (cbE_12, .int), (cbC_13, .int)]) [0, 5, 6, 7, 8, 1, 2, 3, 4] rfl
  exact W.vret hx hb hr (fun tQ htQ hWQ => ⟨⟨(), rfl, trivial, q_1, q_14, q_16, q_18, q_20, q_3, ca_2, ca_15, ca_17, ca_19, ca_21, bW_6, bA_7, bE_8, bC_9, cbW_10, cbA_11, cbE_12, cbC_13, by rw [htQ]; exact hP9, va_K.moved hWQ.alike hK9, hD9⟩, hS.F htQ⟩) hS.2.2 dX8_init_56

theorem kc_h3_X3_0 : (.methodLink RX3 3 objectInit : Cond) ∈ wsX3_init := kc_of 227 rfl rfl rfl
theorem kc_h3_X3_1 : (.instanceMethod objectInit : Cond) ∈ wsX3_init := kc_of 99 rfl rfl rfl
theorem kc_h3_X3_2 : (.code objectInit ⟨#[0xb1]⟩ 1 none : Cond) ∈ wsX3_init := kc_of 100 rfl rfl rfl
theorem kc_h3_X3_3 : ∀ w ∈ wsX30, w ∈ wsX3_init := fun w h => List.mem_cons_of_mem _ (gin_wsX30 w h)
theorem kc_h3_X3_4 : (.fieldLink RX3 9 "MistHeaps$Heap" "kind" "I" : Cond) ∈ wsX3_init := kc_of 228 rfl rfl rfl
theorem kc_h3_X3_5 : (.fieldLink RX3 15 "MistHeaps$Heap" "number" "I" : Cond) ∈ wsX3_init := kc_of 231 rfl rfl rfl
theorem kc_h3_X3_6 : (.fieldLink RX3 18 "MistHeaps$Heap" "v" "I" : Cond) ∈ wsX3_init := kc_of 236 rfl rfl rfl
theorem kc_h3_X3_7 : (.fieldLink RX3 21 "MistHeaps$Heap" "cell" "I" : Cond) ∈ wsX3_init := kc_of 246 rfl rfl rfl
set_option maxHeartbeats 4000000 in
set_option maxRecDepth 100000 in
theorem c_h3_X3 (l : Launch) (dC : Nat → ClassId) (dI : Nat → Nat → Nat) (a0 : Nat) (x y z u0 : Int32) (sz : Nat) : Met l yX3_init wsX3_init ({ frames := 1, cells := 0, slots := 0, locals := 12 } : Room) (va_Pc [.ref a0, .int x, .int y, .int z, .int u0] (fun U => U.heap.size = sz ∧ va_P (dC, dI) vwCl [(zo5iiii a0 0 0 0 0)] U.heap ∧ va_K (dC, dI) vwCl [] U ∧ va_D (fun _ => True) [(zo5iiii a0 0 0 0 0)])) (va_Qv (fun (u : Unit) => match u with | () => True) (fun (u : Unit) (t : State) => match u with | () => va_P (dC, dI) vwCl [(zo5iiii a0 x y z u0)] t.heap ∧ va_K (dC, dI) vwCl [] t ∧ va_D (va_A [(zo5iiii a0 0 0 0 0)] sz) [(zo5iiii a0 x y z u0)]) (va_A [(zo5iiii a0 0 0 0 0)] sz)) 0 0 (va_A [(zo5iiii a0 0 0 0 0)] sz) := by
  refine met_ofQ (cc := cX3_init) (maxL := 5) (ret := none) (by decide) rfl ?_
  intro p e s m args below meth c s₁ Q B hml hv hQ
  obtain ⟨rfl, hsz, hP, hK, hD0⟩ := hv
  have hx := B.exec
  have hb := B.bytes
  have hr := B.returns
  have hts := atoms_spec (ws := wsX3_init) B.pre
  have hown : s.vm.findClass RX3 = some m.cls := findClass_of_methodNamed B.named
  have hlocks := B.notSynchronized
  have hin : meth.name = "<init>" := (name_of_methodNamed B.named B.method).1
  subst hsz
  have hD := hD0.self (sz := s.heap.size)
  generalize hAe : va_A [(zo5iiii a0 0 0 0 0)] s.heap.size = A at hD hQ ⊢
  have hA : ∀ q : Nat, s.heap.size ≤ q → A q := fun q h => by rw [← hAe]; exact Or.inr h
  have hS : va_S A s.heap s.heap [] := va_S.rf
  have hl := lv_entry [.ref a0, .int x, .int y, .int z, .int u0] (n := 5) (Nat.le_of_ble_eq_true rfl)
  rw [lg_entry_eq]
  generalize (lg_sl [.ref a0, .int x, .int y, .int z, .int u0] ++ List.replicate (5 - (lg_sl [.ref a0, .int x, .int y, .int z, .int u0]).length) Slot.unset).toArray = ls at hl ⊢
  generalize hag : ([.ref a0, .int x, .int y, .int z, .int u0] : List Value).toArray = args at hts hQ ⊢
  have hl : lv_has ls 5 [(0, .ref a0), (1, .int x), (2, .int y), (3, .int z), (4, .int u0)] := hl
  obtain ⟨H, hH⟩ : ∃ H : Heap, H = s.heap := ⟨_, rfl⟩
  rw [← hH] at hP
  rw [← hH]
  have hS : va_S A s.heap H [] := by rw [hH]; exact hS
  obtain ⟨locs, hlo⟩ : ∃ L : List Loc, L = [] := ⟨_, rfl⟩
  rw [← hlo] at hS
  rw [← hlo]
  clear hH hlo
  refine lv_aload_n hx hb dX3_init_0 rfl (lv_at hl 0 rfl) ?_
  refine W.objInit hx hb hown (hts (.methodLink RX3 3 objectInit) kc_h3_X3_0) (hts (.instanceMethod objectInit) kc_h3_X3_1) (hts (.code objectInit ⟨#[0xb1]⟩ 1 none) kc_h3_X3_2) rfl (by rw [hml]; exact hl.1) rfl dX3_init_1 (Nat.le_of_ble_eq_true rfl) (Nat.le_of_ble_eq_true rfl) ?_
  refine W.eq (g2 := F0 m 4 ls []) rfl ?_
  refine lv_aload_n hx hb dX3_init_4 rfl (lv_at hl 0 rfl) ?_
  refine lv_iload_n hx hb dX3_init_5 rfl (lv_at hl 1 rfl) ?_
  refine va_putF (D := (dC, dI)) (ci := 5) (v := .int x) (ty := .int) (C := RX3) (T := TX3) (N := 4) hx hb hts kc_h3_X3_3 tyX3 tyX3_ok nmX3 hown hK hP hD hS 0 rfl rfl 0 (by decide) (hts (.fieldLink RX3 9 "MistHeaps$Heap" "kind" "I") kc_h3_X3_4) (fun _ h9 => h9) rfl hin rfl (by decide +kernel) rfl rfl (Nat.le_of_ble_eq_true rfl) dX3_init_6 (fun H locs hP hD hS => ?_)
  have hP : va_P (dC, dI) vwCl [(zo5iiii a0 x 0 0 0)] H := hP
  have hD : va_D A [(zo5iiii a0 x 0 0 0)] := hD
  refine lv_aload_n hx hb dX3_init_9 rfl (lv_at hl 0 rfl) ?_
  refine lv_iload_n hx hb dX3_init_10 rfl (lv_at hl 2 rfl) ?_
  refine va_put (D := (dC, dI)) (ci := 5) (v := .int y) (ty := .int) (C := RX3) (T := TX3) (N := 4) hx hb hts kc_h3_X3_3 tyX3 tyX3_ok nmX3 hown hK hP hD hS 0 rfl rfl 1 (by decide) (hts (.fieldLink RX3 15 "MistHeaps$Heap" "number" "I") kc_h3_X3_5) (fun _ h9 => h9) rfl (by decide +kernel) rfl rfl (Nat.le_of_ble_eq_true rfl) dX3_init_11 (fun H locs hP hD hS => ?_)
  have hP : va_P (dC, dI) vwCl [(zo5iiii a0 x y 0 0)] H := hP
  have hD : va_D A [(zo5iiii a0 x y 0 0)] := hD
  refine lv_aload_n hx hb dX3_init_14 rfl (lv_at hl 0 rfl) ?_
  refine lv_iload_n hx hb dX3_init_15 rfl (lv_at hl 3 rfl) ?_
  refine va_putF (D := (dC, dI)) (ci := 5) (v := .int z) (ty := .int) (C := RX3) (T := TX3) (N := 4) hx hb hts kc_h3_X3_3 tyX3 tyX3_ok nmX3 hown hK hP hD hS 0 rfl rfl 2 (by decide) (hts (.fieldLink RX3 18 "MistHeaps$Heap" "v" "I") kc_h3_X3_6) (fun _ h9 => h9) rfl hin rfl (by decide +kernel) rfl rfl (Nat.le_of_ble_eq_true rfl) dX3_init_16 (fun H locs hP hD hS => ?_)
  have hP : va_P (dC, dI) vwCl [(zo5iiii a0 x y z 0)] H := hP
  have hD : va_D A [(zo5iiii a0 x y z 0)] := hD
  refine lv_aload_n hx hb dX3_init_19 rfl (lv_at hl 0 rfl) ?_
  refine lv_iload hx hb dX3_init_20 (lv_at hl 4 rfl) ?_
  refine va_put (D := (dC, dI)) (ci := 5) (v := .int u0) (ty := .int) (C := RX3) (T := TX3) (N := 4) hx hb hts kc_h3_X3_3 tyX3 tyX3_ok nmX3 hown hK hP hD hS 0 rfl rfl 3 (by decide) (hts (.fieldLink RX3 21 "MistHeaps$Heap" "cell" "I") kc_h3_X3_7) (fun _ h9 => h9) rfl (by decide +kernel) rfl rfl (Nat.le_of_ble_eq_true rfl) dX3_init_22 (fun H locs hP hD hS => ?_)
  have hP : va_P (dC, dI) vwCl [(zo5iiii a0 x y z u0)] H := hP
  have hD : va_D A [(zo5iiii a0 x y z u0)] := hD
  rw [hQ]
  have hP9 := hP.sub (ws' := [(zo5iiii a0 x y z u0)]) [0] rfl
  have hD9 := hD.sub (ws' := [(zo5iiii a0 x y z u0)]) [0] (by decide) rfl
  have hK9 := hK.sub (tys' := []) [] rfl
  exact W.vret hx hb hr (fun tQ htQ hWQ => ⟨⟨(), rfl, trivial, by rw [htQ]; exact hP9, va_K.moved hWQ.alike hK9, hD9⟩, hS.F htQ⟩) hS.2.2 dX3_init_25

theorem kc_h3_X4_0 : (.methodLink RX3 3 objectInit : Cond) ∈ wsX3_init := kc_of 227 rfl rfl rfl
theorem kc_h3_X4_1 : (.instanceMethod objectInit : Cond) ∈ wsX3_init := kc_of 99 rfl rfl rfl
theorem kc_h3_X4_2 : (.code objectInit ⟨#[0xb1]⟩ 1 none : Cond) ∈ wsX3_init := kc_of 100 rfl rfl rfl
theorem kc_h3_X4_3 : ∀ w ∈ wsX40, w ∈ wsX3_init := fun w h => List.mem_cons_of_mem _ (gin_wsX40 w h)
theorem kc_h3_X4_4 : (.fieldLink RX3 9 "MistHeaps$Heap" "kind" "I" : Cond) ∈ wsX3_init := kc_of 228 rfl rfl rfl
theorem kc_h3_X4_5 : (.fieldLink RX3 15 "MistHeaps$Heap" "number" "I" : Cond) ∈ wsX3_init := kc_of 231 rfl rfl rfl
theorem kc_h3_X4_6 : (.fieldLink RX3 18 "MistHeaps$Heap" "v" "I" : Cond) ∈ wsX3_init := kc_of 236 rfl rfl rfl
theorem kc_h3_X4_7 : (.fieldLink RX3 21 "MistHeaps$Heap" "cell" "I" : Cond) ∈ wsX3_init := kc_of 246 rfl rfl rfl
set_option maxHeartbeats 4000000 in
set_option maxRecDepth 100000 in
theorem c_h3_X4 (l : Launch) (dC : Nat → ClassId) (dI : Nat → Nat → Nat) (a0 : Nat) (x y z u0 : Int32) (sz : Nat) : Met l yX3_init wsX3_init ({ frames := 1, cells := 0, slots := 0, locals := 12 } : Room) (va_Pc [.ref a0, .int x, .int y, .int z, .int u0] (fun U => U.heap.size = sz ∧ va_P (dC, dI) vwCl [(zo6iiii a0 0 0 0 0)] U.heap ∧ va_K (dC, dI) vwCl [] U ∧ va_D (fun _ => True) [(zo6iiii a0 0 0 0 0)])) (va_Qv (fun (u : Unit) => match u with | () => True) (fun (u : Unit) (t : State) => match u with | () => va_P (dC, dI) vwCl [(zo6iiii a0 x y z u0)] t.heap ∧ va_K (dC, dI) vwCl [] t ∧ va_D (va_A [(zo6iiii a0 0 0 0 0)] sz) [(zo6iiii a0 x y z u0)]) (va_A [(zo6iiii a0 0 0 0 0)] sz)) 0 0 (va_A [(zo6iiii a0 0 0 0 0)] sz) := by
  refine met_ofQ (cc := cX3_init) (maxL := 5) (ret := none) (by decide) rfl ?_
  intro p e s m args below meth c s₁ Q B hml hv hQ
  obtain ⟨rfl, hsz, hP, hK, hD0⟩ := hv
  have hx := B.exec
  have hb := B.bytes
  have hr := B.returns
  have hts := atoms_spec (ws := wsX3_init) B.pre
  have hown : s.vm.findClass RX3 = some m.cls := findClass_of_methodNamed B.named
  have hlocks := B.notSynchronized
  have hin : meth.name = "<init>" := (name_of_methodNamed B.named B.method).1
  subst hsz
  have hD := hD0.self (sz := s.heap.size)
  generalize hAe : va_A [(zo6iiii a0 0 0 0 0)] s.heap.size = A at hD hQ ⊢
  have hA : ∀ q : Nat, s.heap.size ≤ q → A q := fun q h => by rw [← hAe]; exact Or.inr h
  have hS : va_S A s.heap s.heap [] := va_S.rf
  have hl := lv_entry [.ref a0, .int x, .int y, .int z, .int u0] (n := 5) (Nat.le_of_ble_eq_true rfl)
  rw [lg_entry_eq]
  generalize (lg_sl [.ref a0, .int x, .int y, .int z, .int u0] ++ List.replicate (5 - (lg_sl [.ref a0, .int x, .int y, .int z, .int u0]).length) Slot.unset).toArray = ls at hl ⊢
  generalize hag : ([.ref a0, .int x, .int y, .int z, .int u0] : List Value).toArray = args at hts hQ ⊢
  have hl : lv_has ls 5 [(0, .ref a0), (1, .int x), (2, .int y), (3, .int z), (4, .int u0)] := hl
  obtain ⟨H, hH⟩ : ∃ H : Heap, H = s.heap := ⟨_, rfl⟩
  rw [← hH] at hP
  rw [← hH]
  have hS : va_S A s.heap H [] := by rw [hH]; exact hS
  obtain ⟨locs, hlo⟩ : ∃ L : List Loc, L = [] := ⟨_, rfl⟩
  rw [← hlo] at hS
  rw [← hlo]
  clear hH hlo
  refine lv_aload_n hx hb dX3_init_0 rfl (lv_at hl 0 rfl) ?_
  refine W.objInit hx hb hown (hts (.methodLink RX3 3 objectInit) kc_h3_X4_0) (hts (.instanceMethod objectInit) kc_h3_X4_1) (hts (.code objectInit ⟨#[0xb1]⟩ 1 none) kc_h3_X4_2) rfl (by rw [hml]; exact hl.1) rfl dX3_init_1 (Nat.le_of_ble_eq_true rfl) (Nat.le_of_ble_eq_true rfl) ?_
  refine W.eq (g2 := F0 m 4 ls []) rfl ?_
  refine lv_aload_n hx hb dX3_init_4 rfl (lv_at hl 0 rfl) ?_
  refine lv_iload_n hx hb dX3_init_5 rfl (lv_at hl 1 rfl) ?_
  refine va_putF (D := (dC, dI)) (ci := 6) (v := .int x) (ty := .int) (C := RX4) (T := TX4) (N := 4) hx hb hts kc_h3_X4_3 tyX4 tyX4_ok nmX4 hown hK hP hD hS 0 rfl rfl 0 (by decide) (hts (.fieldLink RX3 9 "MistHeaps$Heap" "kind" "I") kc_h3_X4_4) (fun _ h9 => h9) rfl hin rfl (by decide +kernel) rfl rfl (Nat.le_of_ble_eq_true rfl) dX3_init_6 (fun H locs hP hD hS => ?_)
  have hP : va_P (dC, dI) vwCl [(zo6iiii a0 x 0 0 0)] H := hP
  have hD : va_D A [(zo6iiii a0 x 0 0 0)] := hD
  refine lv_aload_n hx hb dX3_init_9 rfl (lv_at hl 0 rfl) ?_
  refine lv_iload_n hx hb dX3_init_10 rfl (lv_at hl 2 rfl) ?_
  refine va_put (D := (dC, dI)) (ci := 6) (v := .int y) (ty := .int) (C := RX4) (T := TX4) (N := 4) hx hb hts kc_h3_X4_3 tyX4 tyX4_ok nmX4 hown hK hP hD hS 0 rfl rfl 1 (by decide) (hts (.fieldLink RX3 15 "MistHeaps$Heap" "number" "I") kc_h3_X4_5) (fun _ h9 => h9) rfl (by decide +kernel) rfl rfl (Nat.le_of_ble_eq_true rfl) dX3_init_11 (fun H locs hP hD hS => ?_)
  have hP : va_P (dC, dI) vwCl [(zo6iiii a0 x y 0 0)] H := hP
  have hD : va_D A [(zo6iiii a0 x y 0 0)] := hD
  refine lv_aload_n hx hb dX3_init_14 rfl (lv_at hl 0 rfl) ?_
  refine lv_iload_n hx hb dX3_init_15 rfl (lv_at hl 3 rfl) ?_
  refine va_putF (D := (dC, dI)) (ci := 6) (v := .int z) (ty := .int) (C := RX4) (T := TX4) (N := 4) hx hb hts kc_h3_X4_3 tyX4 tyX4_ok nmX4 hown hK hP hD hS 0 rfl rfl 2 (by decide) (hts (.fieldLink RX3 18 "MistHeaps$Heap" "v" "I") kc_h3_X4_6) (fun _ h9 => h9) rfl hin rfl (by decide +kernel) rfl rfl (Nat.le_of_ble_eq_true rfl) dX3_init_16 (fun H locs hP hD hS => ?_)
  have hP : va_P (dC, dI) vwCl [(zo6iiii a0 x y z 0)] H := hP
  have hD : va_D A [(zo6iiii a0 x y z 0)] := hD
  refine lv_aload_n hx hb dX3_init_19 rfl (lv_at hl 0 rfl) ?_
  refine lv_iload hx hb dX3_init_20 (lv_at hl 4 rfl) ?_
  refine va_put (D := (dC, dI)) (ci := 6) (v := .int u0) (ty := .int) (C := RX4) (T := TX4) (N := 4) hx hb hts kc_h3_X4_3 tyX4 tyX4_ok nmX4 hown hK hP hD hS 0 rfl rfl 3 (by decide) (hts (.fieldLink RX3 21 "MistHeaps$Heap" "cell" "I") kc_h3_X4_7) (fun _ h9 => h9) rfl (by decide +kernel) rfl rfl (Nat.le_of_ble_eq_true rfl) dX3_init_22 (fun H locs hP hD hS => ?_)
  have hP : va_P (dC, dI) vwCl [(zo6iiii a0 x y z u0)] H := hP
  have hD : va_D A [(zo6iiii a0 x y z u0)] := hD
  rw [hQ]
  have hP9 := hP.sub (ws' := [(zo6iiii a0 x y z u0)]) [0] rfl
  have hD9 := hD.sub (ws' := [(zo6iiii a0 x y z u0)]) [0] (by decide) rfl
  have hK9 := hK.sub (tys' := []) [] rfl
  exact W.vret hx hb hr (fun tQ htQ hWQ => ⟨⟨(), rfl, trivial, by rw [htQ]; exact hP9, va_K.moved hWQ.alike hK9, hD9⟩, hS.F htQ⟩) hS.2.2 dX3_init_25

theorem kc_h3_X6_0 : (.methodLink RX3 3 objectInit : Cond) ∈ wsX3_init := kc_of 227 rfl rfl rfl
theorem kc_h3_X6_1 : (.instanceMethod objectInit : Cond) ∈ wsX3_init := kc_of 99 rfl rfl rfl
theorem kc_h3_X6_2 : (.code objectInit ⟨#[0xb1]⟩ 1 none : Cond) ∈ wsX3_init := kc_of 100 rfl rfl rfl
theorem kc_h3_X6_3 : ∀ w ∈ wsX60, w ∈ wsX3_init := fun w h => List.mem_cons_of_mem _ (gin_wsX60 w h)
theorem kc_h3_X6_4 : (.fieldLink RX3 9 "MistHeaps$Heap" "kind" "I" : Cond) ∈ wsX3_init := kc_of 228 rfl rfl rfl
theorem kc_h3_X6_5 : (.fieldLink RX3 15 "MistHeaps$Heap" "number" "I" : Cond) ∈ wsX3_init := kc_of 231 rfl rfl rfl
theorem kc_h3_X6_6 : (.fieldLink RX3 18 "MistHeaps$Heap" "v" "I" : Cond) ∈ wsX3_init := kc_of 236 rfl rfl rfl
theorem kc_h3_X6_7 : (.fieldLink RX3 21 "MistHeaps$Heap" "cell" "I" : Cond) ∈ wsX3_init := kc_of 246 rfl rfl rfl
set_option maxHeartbeats 4000000 in
set_option maxRecDepth 100000 in
theorem c_h3_X6 (l : Launch) (dC : Nat → ClassId) (dI : Nat → Nat → Nat) (a0 : Nat) (x y z u0 : Int32) (sz : Nat) : Met l yX3_init wsX3_init ({ frames := 1, cells := 0, slots := 0, locals := 12 } : Room) (va_Pc [.ref a0, .int x, .int y, .int z, .int u0] (fun U => U.heap.size = sz ∧ va_P (dC, dI) vwCl [(zo8iiii a0 0 0 0 0)] U.heap ∧ va_K (dC, dI) vwCl [] U ∧ va_D (fun _ => True) [(zo8iiii a0 0 0 0 0)])) (va_Qv (fun (u : Unit) => match u with | () => True) (fun (u : Unit) (t : State) => match u with | () => va_P (dC, dI) vwCl [(zo8iiii a0 x y z u0)] t.heap ∧ va_K (dC, dI) vwCl [] t ∧ va_D (va_A [(zo8iiii a0 0 0 0 0)] sz) [(zo8iiii a0 x y z u0)]) (va_A [(zo8iiii a0 0 0 0 0)] sz)) 0 0 (va_A [(zo8iiii a0 0 0 0 0)] sz) := by
  refine met_ofQ (cc := cX3_init) (maxL := 5) (ret := none) (by decide) rfl ?_
  intro p e s m args below meth c s₁ Q B hml hv hQ
  obtain ⟨rfl, hsz, hP, hK, hD0⟩ := hv
  have hx := B.exec
  have hb := B.bytes
  have hr := B.returns
  have hts := atoms_spec (ws := wsX3_init) B.pre
  have hown : s.vm.findClass RX3 = some m.cls := findClass_of_methodNamed B.named
  have hlocks := B.notSynchronized
  have hin : meth.name = "<init>" := (name_of_methodNamed B.named B.method).1
  subst hsz
  have hD := hD0.self (sz := s.heap.size)
  generalize hAe : va_A [(zo8iiii a0 0 0 0 0)] s.heap.size = A at hD hQ ⊢
  have hA : ∀ q : Nat, s.heap.size ≤ q → A q := fun q h => by rw [← hAe]; exact Or.inr h
  have hS : va_S A s.heap s.heap [] := va_S.rf
  have hl := lv_entry [.ref a0, .int x, .int y, .int z, .int u0] (n := 5) (Nat.le_of_ble_eq_true rfl)
  rw [lg_entry_eq]
  generalize (lg_sl [.ref a0, .int x, .int y, .int z, .int u0] ++ List.replicate (5 - (lg_sl [.ref a0, .int x, .int y, .int z, .int u0]).length) Slot.unset).toArray = ls at hl ⊢
  generalize hag : ([.ref a0, .int x, .int y, .int z, .int u0] : List Value).toArray = args at hts hQ ⊢
  have hl : lv_has ls 5 [(0, .ref a0), (1, .int x), (2, .int y), (3, .int z), (4, .int u0)] := hl
  obtain ⟨H, hH⟩ : ∃ H : Heap, H = s.heap := ⟨_, rfl⟩
  rw [← hH] at hP
  rw [← hH]
  have hS : va_S A s.heap H [] := by rw [hH]; exact hS
  obtain ⟨locs, hlo⟩ : ∃ L : List Loc, L = [] := ⟨_, rfl⟩
  rw [← hlo] at hS
  rw [← hlo]
  clear hH hlo
  refine lv_aload_n hx hb dX3_init_0 rfl (lv_at hl 0 rfl) ?_
  refine W.objInit hx hb hown (hts (.methodLink RX3 3 objectInit) kc_h3_X6_0) (hts (.instanceMethod objectInit) kc_h3_X6_1) (hts (.code objectInit ⟨#[0xb1]⟩ 1 none) kc_h3_X6_2) rfl (by rw [hml]; exact hl.1) rfl dX3_init_1 (Nat.le_of_ble_eq_true rfl) (Nat.le_of_ble_eq_true rfl) ?_
  refine W.eq (g2 := F0 m 4 ls []) rfl ?_
  refine lv_aload_n hx hb dX3_init_4 rfl (lv_at hl 0 rfl) ?_
  refine lv_iload_n hx hb dX3_init_5 rfl (lv_at hl 1 rfl) ?_
  refine va_putF (D := (dC, dI)) (ci := 8) (v := .int x) (ty := .int) (C := RX6) (T := TX6) (N := 4) hx hb hts kc_h3_X6_3 tyX6 tyX6_ok nmX6 hown hK hP hD hS 0 rfl rfl 0 (by decide) (hts (.fieldLink RX3 9 "MistHeaps$Heap" "kind" "I") kc_h3_X6_4) (fun _ h9 => h9) rfl hin rfl (by decide +kernel) rfl rfl (Nat.le_of_ble_eq_true rfl) dX3_init_6 (fun H locs hP hD hS => ?_)
  have hP : va_P (dC, dI) vwCl [(zo8iiii a0 x 0 0 0)] H := hP
  have hD : va_D A [(zo8iiii a0 x 0 0 0)] := hD
  refine lv_aload_n hx hb dX3_init_9 rfl (lv_at hl 0 rfl) ?_
  refine lv_iload_n hx hb dX3_init_10 rfl (lv_at hl 2 rfl) ?_
  refine va_put (D := (dC, dI)) (ci := 8) (v := .int y) (ty := .int) (C := RX6) (T := TX6) (N := 4) hx hb hts kc_h3_X6_3 tyX6 tyX6_ok nmX6 hown hK hP hD hS 0 rfl rfl 1 (by decide) (hts (.fieldLink RX3 15 "MistHeaps$Heap" "number" "I") kc_h3_X6_5) (fun _ h9 => h9) rfl (by decide +kernel) rfl rfl (Nat.le_of_ble_eq_true rfl) dX3_init_11 (fun H locs hP hD hS => ?_)
  have hP : va_P (dC, dI) vwCl [(zo8iiii a0 x y 0 0)] H := hP
  have hD : va_D A [(zo8iiii a0 x y 0 0)] := hD
  refine lv_aload_n hx hb dX3_init_14 rfl (lv_at hl 0 rfl) ?_
  refine lv_iload_n hx hb dX3_init_15 rfl (lv_at hl 3 rfl) ?_
  refine va_putF (D := (dC, dI)) (ci := 8) (v := .int z) (ty := .int) (C := RX6) (T := TX6) (N := 4) hx hb hts kc_h3_X6_3 tyX6 tyX6_ok nmX6 hown hK hP hD hS 0 rfl rfl 2 (by decide) (hts (.fieldLink RX3 18 "MistHeaps$Heap" "v" "I") kc_h3_X6_6) (fun _ h9 => h9) rfl hin rfl (by decide +kernel) rfl rfl (Nat.le_of_ble_eq_true rfl) dX3_init_16 (fun H locs hP hD hS => ?_)
  have hP : va_P (dC, dI) vwCl [(zo8iiii a0 x y z 0)] H := hP
  have hD : va_D A [(zo8iiii a0 x y z 0)] := hD
  refine lv_aload_n hx hb dX3_init_19 rfl (lv_at hl 0 rfl) ?_
  refine lv_iload hx hb dX3_init_20 (lv_at hl 4 rfl) ?_
  refine va_put (D := (dC, dI)) (ci := 8) (v := .int u0) (ty := .int) (C := RX6) (T := TX6) (N := 4) hx hb hts kc_h3_X6_3 tyX6 tyX6_ok nmX6 hown hK hP hD hS 0 rfl rfl 3 (by decide) (hts (.fieldLink RX3 21 "MistHeaps$Heap" "cell" "I") kc_h3_X6_7) (fun _ h9 => h9) rfl (by decide +kernel) rfl rfl (Nat.le_of_ble_eq_true rfl) dX3_init_22 (fun H locs hP hD hS => ?_)
  have hP : va_P (dC, dI) vwCl [(zo8iiii a0 x y z u0)] H := hP
  have hD : va_D A [(zo8iiii a0 x y z u0)] := hD
  rw [hQ]
  have hP9 := hP.sub (ws' := [(zo8iiii a0 x y z u0)]) [0] rfl
  have hD9 := hD.sub (ws' := [(zo8iiii a0 x y z u0)]) [0] (by decide) rfl
  have hK9 := hK.sub (tys' := []) [] rfl
  exact W.vret hx hb hr (fun tQ htQ hWQ => ⟨⟨(), rfl, trivial, by rw [htQ]; exact hP9, va_K.moved hWQ.alike hK9, hD9⟩, hS.F htQ⟩) hS.2.2 dX3_init_25

theorem kc_h3_X1_0 : (.methodLink RX3 3 objectInit : Cond) ∈ wsX3_init := kc_of 227 rfl rfl rfl
theorem kc_h3_X1_1 : (.instanceMethod objectInit : Cond) ∈ wsX3_init := kc_of 99 rfl rfl rfl
theorem kc_h3_X1_2 : (.code objectInit ⟨#[0xb1]⟩ 1 none : Cond) ∈ wsX3_init := kc_of 100 rfl rfl rfl
theorem kc_h3_X1_3 : ∀ w ∈ wsX10, w ∈ wsX3_init := fun w h => List.mem_cons_of_mem _ (gin_wsX10 w h)
theorem kc_h3_X1_4 : (.fieldLink RX3 9 "MistHeaps$Heap" "kind" "I" : Cond) ∈ wsX3_init := kc_of 228 rfl rfl rfl
theorem kc_h3_X1_5 : (.fieldLink RX3 15 "MistHeaps$Heap" "number" "I" : Cond) ∈ wsX3_init := kc_of 231 rfl rfl rfl
theorem kc_h3_X1_6 : (.fieldLink RX3 18 "MistHeaps$Heap" "v" "I" : Cond) ∈ wsX3_init := kc_of 236 rfl rfl rfl
theorem kc_h3_X1_7 : (.fieldLink RX3 21 "MistHeaps$Heap" "cell" "I" : Cond) ∈ wsX3_init := kc_of 246 rfl rfl rfl
set_option maxHeartbeats 4000000 in
set_option maxRecDepth 100000 in
theorem c_h3_X1 (l : Launch) (dC : Nat → ClassId) (dI : Nat → Nat → Nat) (a0 : Nat) (x y z u0 : Int32) (sz : Nat) : Met l yX3_init wsX3_init ({ frames := 1, cells := 0, slots := 0, locals := 12 } : Room) (va_Pc [.ref a0, .int x, .int y, .int z, .int u0] (fun U => U.heap.size = sz ∧ va_P (dC, dI) vwCl [(zo3iiii a0 0 0 0 0)] U.heap ∧ va_K (dC, dI) vwCl [] U ∧ va_D (fun _ => True) [(zo3iiii a0 0 0 0 0)])) (va_Qv (fun (u : Unit) => match u with | () => True) (fun (u : Unit) (t : State) => match u with | () => va_P (dC, dI) vwCl [(zo3iiii a0 x y z u0)] t.heap ∧ va_K (dC, dI) vwCl [] t ∧ va_D (va_A [(zo3iiii a0 0 0 0 0)] sz) [(zo3iiii a0 x y z u0)]) (va_A [(zo3iiii a0 0 0 0 0)] sz)) 0 0 (va_A [(zo3iiii a0 0 0 0 0)] sz) := by
  refine met_ofQ (cc := cX3_init) (maxL := 5) (ret := none) (by decide) rfl ?_
  intro p e s m args below meth c s₁ Q B hml hv hQ
  obtain ⟨rfl, hsz, hP, hK, hD0⟩ := hv
  have hx := B.exec
  have hb := B.bytes
  have hr := B.returns
  have hts := atoms_spec (ws := wsX3_init) B.pre
  have hown : s.vm.findClass RX3 = some m.cls := findClass_of_methodNamed B.named
  have hlocks := B.notSynchronized
  have hin : meth.name = "<init>" := (name_of_methodNamed B.named B.method).1
  subst hsz
  have hD := hD0.self (sz := s.heap.size)
  generalize hAe : va_A [(zo3iiii a0 0 0 0 0)] s.heap.size = A at hD hQ ⊢
  have hA : ∀ q : Nat, s.heap.size ≤ q → A q := fun q h => by rw [← hAe]; exact Or.inr h
  have hS : va_S A s.heap s.heap [] := va_S.rf
  have hl := lv_entry [.ref a0, .int x, .int y, .int z, .int u0] (n := 5) (Nat.le_of_ble_eq_true rfl)
  rw [lg_entry_eq]
  generalize (lg_sl [.ref a0, .int x, .int y, .int z, .int u0] ++ List.replicate (5 - (lg_sl [.ref a0, .int x, .int y, .int z, .int u0]).length) Slot.unset).toArray = ls at hl ⊢
  generalize hag : ([.ref a0, .int x, .int y, .int z, .int u0] : List Value).toArray = args at hts hQ ⊢
  have hl : lv_has ls 5 [(0, .ref a0), (1, .int x), (2, .int y), (3, .int z), (4, .int u0)] := hl
  obtain ⟨H, hH⟩ : ∃ H : Heap, H = s.heap := ⟨_, rfl⟩
  rw [← hH] at hP
  rw [← hH]
  have hS : va_S A s.heap H [] := by rw [hH]; exact hS
  obtain ⟨locs, hlo⟩ : ∃ L : List Loc, L = [] := ⟨_, rfl⟩
  rw [← hlo] at hS
  rw [← hlo]
  clear hH hlo
  refine lv_aload_n hx hb dX3_init_0 rfl (lv_at hl 0 rfl) ?_
  refine W.objInit hx hb hown (hts (.methodLink RX3 3 objectInit) kc_h3_X1_0) (hts (.instanceMethod objectInit) kc_h3_X1_1) (hts (.code objectInit ⟨#[0xb1]⟩ 1 none) kc_h3_X1_2) rfl (by rw [hml]; exact hl.1) rfl dX3_init_1 (Nat.le_of_ble_eq_true rfl) (Nat.le_of_ble_eq_true rfl) ?_
  refine W.eq (g2 := F0 m 4 ls []) rfl ?_
  refine lv_aload_n hx hb dX3_init_4 rfl (lv_at hl 0 rfl) ?_
  refine lv_iload_n hx hb dX3_init_5 rfl (lv_at hl 1 rfl) ?_
  refine va_putF (D := (dC, dI)) (ci := 3) (v := .int x) (ty := .int) (C := RX1) (T := TX1) (N := 4) hx hb hts kc_h3_X1_3 tyX1 tyX1_ok nmX1 hown hK hP hD hS 0 rfl rfl 0 (by decide) (hts (.fieldLink RX3 9 "MistHeaps$Heap" "kind" "I") kc_h3_X1_4) (fun _ h9 => h9) rfl hin rfl (by decide +kernel) rfl rfl (Nat.le_of_ble_eq_true rfl) dX3_init_6 (fun H locs hP hD hS => ?_)
  have hP : va_P (dC, dI) vwCl [(zo3iiii a0 x 0 0 0)] H := hP
  have hD : va_D A [(zo3iiii a0 x 0 0 0)] := hD
  refine lv_aload_n hx hb dX3_init_9 rfl (lv_at hl 0 rfl) ?_
  refine lv_iload_n hx hb dX3_init_10 rfl (lv_at hl 2 rfl) ?_
  refine va_put (D := (dC, dI)) (ci := 3) (v := .int y) (ty := .int) (C := RX1) (T := TX1) (N := 4) hx hb hts kc_h3_X1_3 tyX1 tyX1_ok nmX1 hown hK hP hD hS 0 rfl rfl 1 (by decide) (hts (.fieldLink RX3 15 "MistHeaps$Heap" "number" "I") kc_h3_X1_5) (fun _ h9 => h9) rfl (by decide +kernel) rfl rfl (Nat.le_of_ble_eq_true rfl) dX3_init_11 (fun H locs hP hD hS => ?_)
  have hP : va_P (dC, dI) vwCl [(zo3iiii a0 x y 0 0)] H := hP
  have hD : va_D A [(zo3iiii a0 x y 0 0)] := hD
  refine lv_aload_n hx hb dX3_init_14 rfl (lv_at hl 0 rfl) ?_
  refine lv_iload_n hx hb dX3_init_15 rfl (lv_at hl 3 rfl) ?_
  refine va_putF (D := (dC, dI)) (ci := 3) (v := .int z) (ty := .int) (C := RX1) (T := TX1) (N := 4) hx hb hts kc_h3_X1_3 tyX1 tyX1_ok nmX1 hown hK hP hD hS 0 rfl rfl 2 (by decide) (hts (.fieldLink RX3 18 "MistHeaps$Heap" "v" "I") kc_h3_X1_6) (fun _ h9 => h9) rfl hin rfl (by decide +kernel) rfl rfl (Nat.le_of_ble_eq_true rfl) dX3_init_16 (fun H locs hP hD hS => ?_)
  have hP : va_P (dC, dI) vwCl [(zo3iiii a0 x y z 0)] H := hP
  have hD : va_D A [(zo3iiii a0 x y z 0)] := hD
  refine lv_aload_n hx hb dX3_init_19 rfl (lv_at hl 0 rfl) ?_
  refine lv_iload hx hb dX3_init_20 (lv_at hl 4 rfl) ?_
  refine va_put (D := (dC, dI)) (ci := 3) (v := .int u0) (ty := .int) (C := RX1) (T := TX1) (N := 4) hx hb hts kc_h3_X1_3 tyX1 tyX1_ok nmX1 hown hK hP hD hS 0 rfl rfl 3 (by decide) (hts (.fieldLink RX3 21 "MistHeaps$Heap" "cell" "I") kc_h3_X1_7) (fun _ h9 => h9) rfl (by decide +kernel) rfl rfl (Nat.le_of_ble_eq_true rfl) dX3_init_22 (fun H locs hP hD hS => ?_)
  have hP : va_P (dC, dI) vwCl [(zo3iiii a0 x y z u0)] H := hP
  have hD : va_D A [(zo3iiii a0 x y z u0)] := hD
  rw [hQ]
  have hP9 := hP.sub (ws' := [(zo3iiii a0 x y z u0)]) [0] rfl
  have hD9 := hD.sub (ws' := [(zo3iiii a0 x y z u0)]) [0] (by decide) rfl
  have hK9 := hK.sub (tys' := []) [] rfl
  exact W.vret hx hb hr (fun tQ htQ hWQ => ⟨⟨(), rfl, trivial, by rw [htQ]; exact hP9, va_K.moved hWQ.alike hK9, hD9⟩, hS.F htQ⟩) hS.2.2 dX3_init_25

theorem kc_h3_X10_0 : (.methodLink RX3 3 objectInit : Cond) ∈ wsX3_init := kc_of 227 rfl rfl rfl
theorem kc_h3_X10_1 : (.instanceMethod objectInit : Cond) ∈ wsX3_init := kc_of 99 rfl rfl rfl
theorem kc_h3_X10_2 : (.code objectInit ⟨#[0xb1]⟩ 1 none : Cond) ∈ wsX3_init := kc_of 100 rfl rfl rfl
theorem kc_h3_X10_3 : ∀ w ∈ wsX100, w ∈ wsX3_init := fun w h => List.mem_cons_of_mem _ (gin_wsX100 w h)
theorem kc_h3_X10_4 : (.fieldLink RX3 9 "MistHeaps$Heap" "kind" "I" : Cond) ∈ wsX3_init := kc_of 228 rfl rfl rfl
theorem kc_h3_X10_5 : (.fieldLink RX3 15 "MistHeaps$Heap" "number" "I" : Cond) ∈ wsX3_init := kc_of 231 rfl rfl rfl
theorem kc_h3_X10_6 : (.fieldLink RX3 18 "MistHeaps$Heap" "v" "I" : Cond) ∈ wsX3_init := kc_of 236 rfl rfl rfl
theorem kc_h3_X10_7 : (.fieldLink RX3 21 "MistHeaps$Heap" "cell" "I" : Cond) ∈ wsX3_init := kc_of 246 rfl rfl rfl
set_option maxHeartbeats 4000000 in
set_option maxRecDepth 100000 in
theorem c_h3_X10 (l : Launch) (dC : Nat → ClassId) (dI : Nat → Nat → Nat) (a0 : Nat) (x y z u0 : Int32) (sz : Nat) : Met l yX3_init wsX3_init ({ frames := 1, cells := 0, slots := 0, locals := 12 } : Room) (va_Pc [.ref a0, .int x, .int y, .int z, .int u0] (fun U => U.heap.size = sz ∧ va_P (dC, dI) vwCl [(zo12iiii a0 0 0 0 0)] U.heap ∧ va_K (dC, dI) vwCl [] U ∧ va_D (fun _ => True) [(zo12iiii a0 0 0 0 0)])) (va_Qv (fun (u : Unit) => match u with | () => True) (fun (u : Unit) (t : State) => match u with | () => va_P (dC, dI) vwCl [(zo12iiii a0 x y z u0)] t.heap ∧ va_K (dC, dI) vwCl [] t ∧ va_D (va_A [(zo12iiii a0 0 0 0 0)] sz) [(zo12iiii a0 x y z u0)]) (va_A [(zo12iiii a0 0 0 0 0)] sz)) 0 0 (va_A [(zo12iiii a0 0 0 0 0)] sz) := by
  refine met_ofQ (cc := cX3_init) (maxL := 5) (ret := none) (by decide) rfl ?_
  intro p e s m args below meth c s₁ Q B hml hv hQ
  obtain ⟨rfl, hsz, hP, hK, hD0⟩ := hv
  have hx := B.exec
  have hb := B.bytes
  have hr := B.returns
  have hts := atoms_spec (ws := wsX3_init) B.pre
  have hown : s.vm.findClass RX3 = some m.cls := findClass_of_methodNamed B.named
  have hlocks := B.notSynchronized
  have hin : meth.name = "<init>" := (name_of_methodNamed B.named B.method).1
  subst hsz
  have hD := hD0.self (sz := s.heap.size)
  generalize hAe : va_A [(zo12iiii a0 0 0 0 0)] s.heap.size = A at hD hQ ⊢
  have hA : ∀ q : Nat, s.heap.size ≤ q → A q := fun q h => by rw [← hAe]; exact Or.inr h
  have hS : va_S A s.heap s.heap [] := va_S.rf
  have hl := lv_entry [.ref a0, .int x, .int y, .int z, .int u0] (n := 5) (Nat.le_of_ble_eq_true rfl)
  rw [lg_entry_eq]
  generalize (lg_sl [.ref a0, .int x, .int y, .int z, .int u0] ++ List.replicate (5 - (lg_sl [.ref a0, .int x, .int y, .int z, .int u0]).length) Slot.unset).toArray = ls at hl ⊢
  generalize hag : ([.ref a0, .int x, .int y, .int z, .int u0] : List Value).toArray = args at hts hQ ⊢
  have hl : lv_has ls 5 [(0, .ref a0), (1, .int x), (2, .int y), (3, .int z), (4, .int u0)] := hl
  obtain ⟨H, hH⟩ : ∃ H : Heap, H = s.heap := ⟨_, rfl⟩
  rw [← hH] at hP
  rw [← hH]
  have hS : va_S A s.heap H [] := by rw [hH]; exact hS
  obtain ⟨locs, hlo⟩ : ∃ L : List Loc, L = [] := ⟨_, rfl⟩
  rw [← hlo] at hS
  rw [← hlo]
  clear hH hlo
  refine lv_aload_n hx hb dX3_init_0 rfl (lv_at hl 0 rfl) ?_
  refine W.objInit hx hb hown (hts (.methodLink RX3 3 objectInit) kc_h3_X10_0) (hts (.instanceMethod objectInit) kc_h3_X10_1) (hts (.code objectInit ⟨#[0xb1]⟩ 1 none) kc_h3_X10_2) rfl (by rw [hml]; exact hl.1) rfl dX3_init_1 (Nat.le_of_ble_eq_true rfl) (Nat.le_of_ble_eq_true rfl) ?_
  refine W.eq (g2 := F0 m 4 ls []) rfl ?_
  refine lv_aload_n hx hb dX3_init_4 rfl (lv_at hl 0 rfl) ?_
  refine lv_iload_n hx hb dX3_init_5 rfl (lv_at hl 1 rfl) ?_
  refine va_putF (D := (dC, dI)) (ci := 12) (v := .int x) (ty := .int) (C := RX10) (T := TX10) (N := 4) hx hb hts kc_h3_X10_3 tyX10 tyX10_ok nmX10 hown hK hP hD hS 0 rfl rfl 0 (by decide) (hts (.fieldLink RX3 9 "MistHeaps$Heap" "kind" "I") kc_h3_X10_4) (fun _ h9 => h9) rfl hin rfl (by decide +kernel) rfl rfl (Nat.le_of_ble_eq_true rfl) dX3_init_6 (fun H locs hP hD hS => ?_)
  have hP : va_P (dC, dI) vwCl [(zo12iiii a0 x 0 0 0)] H := hP
  have hD : va_D A [(zo12iiii a0 x 0 0 0)] := hD
  refine lv_aload_n hx hb dX3_init_9 rfl (lv_at hl 0 rfl) ?_
  refine lv_iload_n hx hb dX3_init_10 rfl (lv_at hl 2 rfl) ?_
  refine va_put (D := (dC, dI)) (ci := 12) (v := .int y) (ty := .int) (C := RX10) (T := TX10) (N := 4) hx hb hts kc_h3_X10_3 tyX10 tyX10_ok nmX10 hown hK hP hD hS 0 rfl rfl 1 (by decide) (hts (.fieldLink RX3 15 "MistHeaps$Heap" "number" "I") kc_h3_X10_5) (fun _ h9 => h9) rfl (by decide +kernel) rfl rfl (Nat.le_of_ble_eq_true rfl) dX3_init_11 (fun H locs hP hD hS => ?_)
  have hP : va_P (dC, dI) vwCl [(zo12iiii a0 x y 0 0)] H := hP
  have hD : va_D A [(zo12iiii a0 x y 0 0)] := hD
  refine lv_aload_n hx hb dX3_init_14 rfl (lv_at hl 0 rfl) ?_
  refine lv_iload_n hx hb dX3_init_15 rfl (lv_at hl 3 rfl) ?_
  refine va_putF (D := (dC, dI)) (ci := 12) (v := .int z) (ty := .int) (C := RX10) (T := TX10) (N := 4) hx hb hts kc_h3_X10_3 tyX10 tyX10_ok nmX10 hown hK hP hD hS 0 rfl rfl 2 (by decide) (hts (.fieldLink RX3 18 "MistHeaps$Heap" "v" "I") kc_h3_X10_6) (fun _ h9 => h9) rfl hin rfl (by decide +kernel) rfl rfl (Nat.le_of_ble_eq_true rfl) dX3_init_16 (fun H locs hP hD hS => ?_)
  have hP : va_P (dC, dI) vwCl [(zo12iiii a0 x y z 0)] H := hP
  have hD : va_D A [(zo12iiii a0 x y z 0)] := hD
  refine lv_aload_n hx hb dX3_init_19 rfl (lv_at hl 0 rfl) ?_
  refine lv_iload hx hb dX3_init_20 (lv_at hl 4 rfl) ?_
  refine va_put (D := (dC, dI)) (ci := 12) (v := .int u0) (ty := .int) (C := RX10) (T := TX10) (N := 4) hx hb hts kc_h3_X10_3 tyX10 tyX10_ok nmX10 hown hK hP hD hS 0 rfl rfl 3 (by decide) (hts (.fieldLink RX3 21 "MistHeaps$Heap" "cell" "I") kc_h3_X10_7) (fun _ h9 => h9) rfl (by decide +kernel) rfl rfl (Nat.le_of_ble_eq_true rfl) dX3_init_22 (fun H locs hP hD hS => ?_)
  have hP : va_P (dC, dI) vwCl [(zo12iiii a0 x y z u0)] H := hP
  have hD : va_D A [(zo12iiii a0 x y z u0)] := hD
  rw [hQ]
  have hP9 := hP.sub (ws' := [(zo12iiii a0 x y z u0)]) [0] rfl
  have hD9 := hD.sub (ws' := [(zo12iiii a0 x y z u0)]) [0] (by decide) rfl
  have hK9 := hK.sub (tys' := []) [] rfl
  exact W.vret hx hb hr (fun tQ htQ hWQ => ⟨⟨(), rfl, trivial, by rw [htQ]; exact hP9, va_K.moved hWQ.alike hK9, hD9⟩, hS.F htQ⟩) hS.2.2 dX3_init_25

theorem kc_h3_X9_0 : (.methodLink RX3 3 objectInit : Cond) ∈ wsX3_init := kc_of 227 rfl rfl rfl
theorem kc_h3_X9_1 : (.instanceMethod objectInit : Cond) ∈ wsX3_init := kc_of 99 rfl rfl rfl
theorem kc_h3_X9_2 : (.code objectInit ⟨#[0xb1]⟩ 1 none : Cond) ∈ wsX3_init := kc_of 100 rfl rfl rfl
theorem kc_h3_X9_3 : ∀ w ∈ wsX90, w ∈ wsX3_init := fun w h => List.mem_cons_of_mem _ (gin_wsX90 w h)
theorem kc_h3_X9_4 : (.fieldLink RX3 9 "MistHeaps$Heap" "kind" "I" : Cond) ∈ wsX3_init := kc_of 228 rfl rfl rfl
theorem kc_h3_X9_5 : (.fieldLink RX3 15 "MistHeaps$Heap" "number" "I" : Cond) ∈ wsX3_init := kc_of 231 rfl rfl rfl
theorem kc_h3_X9_6 : (.fieldLink RX3 18 "MistHeaps$Heap" "v" "I" : Cond) ∈ wsX3_init := kc_of 236 rfl rfl rfl
theorem kc_h3_X9_7 : (.fieldLink RX3 21 "MistHeaps$Heap" "cell" "I" : Cond) ∈ wsX3_init := kc_of 246 rfl rfl rfl
set_option maxHeartbeats 4000000 in
set_option maxRecDepth 100000 in
theorem c_h3_X9 (l : Launch) (dC : Nat → ClassId) (dI : Nat → Nat → Nat) (a0 : Nat) (x y z u0 : Int32) (sz : Nat) : Met l yX3_init wsX3_init ({ frames := 1, cells := 0, slots := 0, locals := 12 } : Room) (va_Pc [.ref a0, .int x, .int y, .int z, .int u0] (fun U => U.heap.size = sz ∧ va_P (dC, dI) vwCl [(zo11iiii a0 0 0 0 0)] U.heap ∧ va_K (dC, dI) vwCl [] U ∧ va_D (fun _ => True) [(zo11iiii a0 0 0 0 0)])) (va_Qv (fun (u : Unit) => match u with | () => True) (fun (u : Unit) (t : State) => match u with | () => va_P (dC, dI) vwCl [(zo11iiii a0 x y z u0)] t.heap ∧ va_K (dC, dI) vwCl [] t ∧ va_D (va_A [(zo11iiii a0 0 0 0 0)] sz) [(zo11iiii a0 x y z u0)]) (va_A [(zo11iiii a0 0 0 0 0)] sz)) 0 0 (va_A [(zo11iiii a0 0 0 0 0)] sz) := by
  refine met_ofQ (cc := cX3_init) (maxL := 5) (ret := none) (by decide) rfl ?_
  intro p e s m args below meth c s₁ Q B hml hv hQ
  obtain ⟨rfl, hsz, hP, hK, hD0⟩ := hv
  have hx := B.exec
  have hb := B.bytes
  have hr := B.returns
  have hts := atoms_spec (ws := wsX3_init) B.pre
  have hown : s.vm.findClass RX3 = some m.cls := findClass_of_methodNamed B.named
  have hlocks := B.notSynchronized
  have hin : meth.name = "<init>" := (name_of_methodNamed B.named B.method).1
  subst hsz
  have hD := hD0.self (sz := s.heap.size)
  generalize hAe : va_A [(zo11iiii a0 0 0 0 0)] s.heap.size = A at hD hQ ⊢
  have hA : ∀ q : Nat, s.heap.size ≤ q → A q := fun q h => by rw [← hAe]; exact Or.inr h
  have hS : va_S A s.heap s.heap [] := va_S.rf
  have hl := lv_entry [.ref a0, .int x, .int y, .int z, .int u0] (n := 5) (Nat.le_of_ble_eq_true rfl)
  rw [lg_entry_eq]
  generalize (lg_sl [.ref a0, .int x, .int y, .int z, .int u0] ++ List.replicate (5 - (lg_sl [.ref a0, .int x, .int y, .int z, .int u0]).length) Slot.unset).toArray = ls at hl ⊢
  generalize hag : ([.ref a0, .int x, .int y, .int z, .int u0] : List Value).toArray = args at hts hQ ⊢
  have hl : lv_has ls 5 [(0, .ref a0), (1, .int x), (2, .int y), (3, .int z), (4, .int u0)] := hl
  obtain ⟨H, hH⟩ : ∃ H : Heap, H = s.heap := ⟨_, rfl⟩
  rw [← hH] at hP
  rw [← hH]
  have hS : va_S A s.heap H [] := by rw [hH]; exact hS
  obtain ⟨locs, hlo⟩ : ∃ L : List Loc, L = [] := ⟨_, rfl⟩
  rw [← hlo] at hS
  rw [← hlo]
  clear hH hlo
  refine lv_aload_n hx hb dX3_init_0 rfl (lv_at hl 0 rfl) ?_
  refine W.objInit hx hb hown (hts (.methodLink RX3 3 objectInit) kc_h3_X9_0) (hts (.instanceMethod objectInit) kc_h3_X9_1) (hts (.code objectInit ⟨#[0xb1]⟩ 1 none) kc_h3_X9_2) rfl (by rw [hml]; exact hl.1) rfl dX3_init_1 (Nat.le_of_ble_eq_true rfl) (Nat.le_of_ble_eq_true rfl) ?_
  refine W.eq (g2 := F0 m 4 ls []) rfl ?_
  refine lv_aload_n hx hb dX3_init_4 rfl (lv_at hl 0 rfl) ?_
  refine lv_iload_n hx hb dX3_init_5 rfl (lv_at hl 1 rfl) ?_
  refine va_putF (D := (dC, dI)) (ci := 11) (v := .int x) (ty := .int) (C := RX9) (T := TX9) (N := 4) hx hb hts kc_h3_X9_3 tyX9 tyX9_ok nmX9 hown hK hP hD hS 0 rfl rfl 0 (by decide) (hts (.fieldLink RX3 9 "MistHeaps$Heap" "kind" "I") kc_h3_X9_4) (fun _ h9 => h9) rfl hin rfl (by decide +kernel) rfl rfl (Nat.le_of_ble_eq_true rfl) dX3_init_6 (fun H locs hP hD hS => ?_)
  have hP : va_P (dC, dI) vwCl [(zo11iiii a0 x 0 0 0)] H := hP
  have hD : va_D A [(zo11iiii a0 x 0 0 0)] := hD
  refine lv_aload_n hx hb dX3_init_9 rfl (lv_at hl 0 rfl) ?_
  refine lv_iload_n hx hb dX3_init_10 rfl (lv_at hl 2 rfl) ?_
  refine va_put (D := (dC, dI)) (ci := 11) (v := .int y) (ty := .int) (C := RX9) (T := TX9) (N := 4) hx hb hts kc_h3_X9_3 tyX9 tyX9_ok nmX9 hown hK hP hD hS 0 rfl rfl 1 (by decide) (hts (.fieldLink RX3 15 "MistHeaps$Heap" "number" "I") kc_h3_X9_5) (fun _ h9 => h9) rfl (by decide +kernel) rfl rfl (Nat.le_of_ble_eq_true rfl) dX3_init_11 (fun H locs hP hD hS => ?_)
  have hP : va_P (dC, dI) vwCl [(zo11iiii a0 x y 0 0)] H := hP
  have hD : va_D A [(zo11iiii a0 x y 0 0)] := hD
  refine lv_aload_n hx hb dX3_init_14 rfl (lv_at hl 0 rfl) ?_
  refine lv_iload_n hx hb dX3_init_15 rfl (lv_at hl 3 rfl) ?_
  refine va_putF (D := (dC, dI)) (ci := 11) (v := .int z) (ty := .int) (C := RX9) (T := TX9) (N := 4) hx hb hts kc_h3_X9_3 tyX9 tyX9_ok nmX9 hown hK hP hD hS 0 rfl rfl 2 (by decide) (hts (.fieldLink RX3 18 "MistHeaps$Heap" "v" "I") kc_h3_X9_6) (fun _ h9 => h9) rfl hin rfl (by decide +kernel) rfl rfl (Nat.le_of_ble_eq_true rfl) dX3_init_16 (fun H locs hP hD hS => ?_)
  have hP : va_P (dC, dI) vwCl [(zo11iiii a0 x y z 0)] H := hP
  have hD : va_D A [(zo11iiii a0 x y z 0)] := hD
  refine lv_aload_n hx hb dX3_init_19 rfl (lv_at hl 0 rfl) ?_
  refine lv_iload hx hb dX3_init_20 (lv_at hl 4 rfl) ?_
  refine va_put (D := (dC, dI)) (ci := 11) (v := .int u0) (ty := .int) (C := RX9) (T := TX9) (N := 4) hx hb hts kc_h3_X9_3 tyX9 tyX9_ok nmX9 hown hK hP hD hS 0 rfl rfl 3 (by decide) (hts (.fieldLink RX3 21 "MistHeaps$Heap" "cell" "I") kc_h3_X9_7) (fun _ h9 => h9) rfl (by decide +kernel) rfl rfl (Nat.le_of_ble_eq_true rfl) dX3_init_22 (fun H locs hP hD hS => ?_)
  have hP : va_P (dC, dI) vwCl [(zo11iiii a0 x y z u0)] H := hP
  have hD : va_D A [(zo11iiii a0 x y z u0)] := hD
  rw [hQ]
  have hP9 := hP.sub (ws' := [(zo11iiii a0 x y z u0)]) [0] rfl
  have hD9 := hD.sub (ws' := [(zo11iiii a0 x y z u0)]) [0] (by decide) rfl
  have hK9 := hK.sub (tys' := []) [] rfl
  exact W.vret hx hb hr (fun tQ htQ hWQ => ⟨⟨(), rfl, trivial, by rw [htQ]; exact hP9, va_K.moved hWQ.alike hK9, hD9⟩, hS.F htQ⟩) hS.2.2 dX3_init_25

theorem kc_h3_X7_0 : (.methodLink RX3 3 objectInit : Cond) ∈ wsX3_init := kc_of 227 rfl rfl rfl
theorem kc_h3_X7_1 : (.instanceMethod objectInit : Cond) ∈ wsX3_init := kc_of 99 rfl rfl rfl
theorem kc_h3_X7_2 : (.code objectInit ⟨#[0xb1]⟩ 1 none : Cond) ∈ wsX3_init := kc_of 100 rfl rfl rfl
theorem kc_h3_X7_3 : ∀ w ∈ wsX70, w ∈ wsX3_init := fun w h => List.mem_cons_of_mem _ (gin_wsX70 w h)
theorem kc_h3_X7_4 : (.fieldLink RX3 9 "MistHeaps$Heap" "kind" "I" : Cond) ∈ wsX3_init := kc_of 228 rfl rfl rfl
theorem kc_h3_X7_5 : (.fieldLink RX3 15 "MistHeaps$Heap" "number" "I" : Cond) ∈ wsX3_init := kc_of 231 rfl rfl rfl
theorem kc_h3_X7_6 : (.fieldLink RX3 18 "MistHeaps$Heap" "v" "I" : Cond) ∈ wsX3_init := kc_of 236 rfl rfl rfl
theorem kc_h3_X7_7 : (.fieldLink RX3 21 "MistHeaps$Heap" "cell" "I" : Cond) ∈ wsX3_init := kc_of 246 rfl rfl rfl
set_option maxHeartbeats 4000000 in
set_option maxRecDepth 100000 in
theorem c_h3_X7 (l : Launch) (dC : Nat → ClassId) (dI : Nat → Nat → Nat) (a0 : Nat) (x y z u0 : Int32) (sz : Nat) : Met l yX3_init wsX3_init ({ frames := 1, cells := 0, slots := 0, locals := 12 } : Room) (va_Pc [.ref a0, .int x, .int y, .int z, .int u0] (fun U => U.heap.size = sz ∧ va_P (dC, dI) vwCl [(zo9iiii a0 0 0 0 0)] U.heap ∧ va_K (dC, dI) vwCl [] U ∧ va_D (fun _ => True) [(zo9iiii a0 0 0 0 0)])) (va_Qv (fun (u : Unit) => match u with | () => True) (fun (u : Unit) (t : State) => match u with | () => va_P (dC, dI) vwCl [(zo9iiii a0 x y z u0)] t.heap ∧ va_K (dC, dI) vwCl [] t ∧ va_D (va_A [(zo9iiii a0 0 0 0 0)] sz) [(zo9iiii a0 x y z u0)]) (va_A [(zo9iiii a0 0 0 0 0)] sz)) 0 0 (va_A [(zo9iiii a0 0 0 0 0)] sz) := by
  refine met_ofQ (cc := cX3_init) (maxL := 5) (ret := none) (by decide) rfl ?_
  intro p e s m args below meth c s₁ Q B hml hv hQ
  obtain ⟨rfl, hsz, hP, hK, hD0⟩ := hv
  have hx := B.exec
  have hb := B.bytes
  have hr := B.returns
  have hts := atoms_spec (ws := wsX3_init) B.pre
  have hown : s.vm.findClass RX3 = some m.cls := findClass_of_methodNamed B.named
  have hlocks := B.notSynchronized
  have hin : meth.name = "<init>" := (name_of_methodNamed B.named B.method).1
  subst hsz
  have hD := hD0.self (sz := s.heap.size)
  generalize hAe : va_A [(zo9iiii a0 0 0 0 0)] s.heap.size = A at hD hQ ⊢
  have hA : ∀ q : Nat, s.heap.size ≤ q → A q := fun q h => by rw [← hAe]; exact Or.inr h
  have hS : va_S A s.heap s.heap [] := va_S.rf
  have hl := lv_entry [.ref a0, .int x, .int y, .int z, .int u0] (n := 5) (Nat.le_of_ble_eq_true rfl)
  rw [lg_entry_eq]
  generalize (lg_sl [.ref a0, .int x, .int y, .int z, .int u0] ++ List.replicate (5 - (lg_sl [.ref a0, .int x, .int y, .int z, .int u0]).length) Slot.unset).toArray = ls at hl ⊢
  generalize hag : ([.ref a0, .int x, .int y, .int z, .int u0] : List Value).toArray = args at hts hQ ⊢
  have hl : lv_has ls 5 [(0, .ref a0), (1, .int x), (2, .int y), (3, .int z), (4, .int u0)] := hl
  obtain ⟨H, hH⟩ : ∃ H : Heap, H = s.heap := ⟨_, rfl⟩
  rw [← hH] at hP
  rw [← hH]
  have hS : va_S A s.heap H [] := by rw [hH]; exact hS
  obtain ⟨locs, hlo⟩ : ∃ L : List Loc, L = [] := ⟨_, rfl⟩
  rw [← hlo] at hS
  rw [← hlo]
  clear hH hlo
  refine lv_aload_n hx hb dX3_init_0 rfl (lv_at hl 0 rfl) ?_
  refine W.objInit hx hb hown (hts (.methodLink RX3 3 objectInit) kc_h3_X7_0) (hts (.instanceMethod objectInit) kc_h3_X7_1) (hts (.code objectInit ⟨#[0xb1]⟩ 1 none) kc_h3_X7_2) rfl (by rw [hml]; exact hl.1) rfl dX3_init_1 (Nat.le_of_ble_eq_true rfl) (Nat.le_of_ble_eq_true rfl) ?_
  refine W.eq (g2 := F0 m 4 ls []) rfl ?_
  refine lv_aload_n hx hb dX3_init_4 rfl (lv_at hl 0 rfl) ?_
  refine lv_iload_n hx hb dX3_init_5 rfl (lv_at hl 1 rfl) ?_
  refine va_putF (D := (dC, dI)) (ci := 9) (v := .int x) (ty := .int) (C := RX7) (T := TX7) (N := 4) hx hb hts kc_h3_X7_3 tyX7 tyX7_ok nmX7 hown hK hP hD hS 0 rfl rfl 0 (by decide) (hts (.fieldLink RX3 9 "MistHeaps$Heap" "kind" "I") kc_h3_X7_4) (fun _ h9 => h9) rfl hin rfl (by decide +kernel) rfl rfl (Nat.le_of_ble_eq_true rfl) dX3_init_6 (fun H locs hP hD hS => ?_)
  have hP : va_P (dC, dI) vwCl [(zo9iiii a0 x 0 0 0)] H := hP
  have hD : va_D A [(zo9iiii a0 x 0 0 0)] := hD
  refine lv_aload_n hx hb dX3_init_9 rfl (lv_at hl 0 rfl) ?_
  refine lv_iload_n hx hb dX3_init_10 rfl (lv_at hl 2 rfl) ?_
  refine va_put (D := (dC, dI)) (ci := 9) (v := .int y) (ty := .int) (C := RX7) (T := TX7) (N := 4) hx hb hts kc_h3_X7_3 tyX7 tyX7_ok nmX7 hown hK hP hD hS 0 rfl rfl 1 (by decide) (hts (.fieldLink RX3 15 "MistHeaps$Heap" "number" "I") kc_h3_X7_5) (fun _ h9 => h9) rfl (by decide +kernel) rfl rfl (Nat.le_of_ble_eq_true rfl) dX3_init_11 (fun H locs hP hD hS => ?_)
  have hP : va_P (dC, dI) vwCl [(zo9iiii a0 x y 0 0)] H := hP
  have hD : va_D A [(zo9iiii a0 x y 0 0)] := hD
  refine lv_aload_n hx hb dX3_init_14 rfl (lv_at hl 0 rfl) ?_
  refine lv_iload_n hx hb dX3_init_15 rfl (lv_at hl 3 rfl) ?_
  refine va_putF (D := (dC, dI)) (ci := 9) (v := .int z) (ty := .int) (C := RX7) (T := TX7) (N := 4) hx hb hts kc_h3_X7_3 tyX7 tyX7_ok nmX7 hown hK hP hD hS 0 rfl rfl 2 (by decide) (hts (.fieldLink RX3 18 "MistHeaps$Heap" "v" "I") kc_h3_X7_6) (fun _ h9 => h9) rfl hin rfl (by decide +kernel) rfl rfl (Nat.le_of_ble_eq_true rfl) dX3_init_16 (fun H locs hP hD hS => ?_)
  have hP : va_P (dC, dI) vwCl [(zo9iiii a0 x y z 0)] H := hP
  have hD : va_D A [(zo9iiii a0 x y z 0)] := hD
  refine lv_aload_n hx hb dX3_init_19 rfl (lv_at hl 0 rfl) ?_
  refine lv_iload hx hb dX3_init_20 (lv_at hl 4 rfl) ?_
  refine va_put (D := (dC, dI)) (ci := 9) (v := .int u0) (ty := .int) (C := RX7) (T := TX7) (N := 4) hx hb hts kc_h3_X7_3 tyX7 tyX7_ok nmX7 hown hK hP hD hS 0 rfl rfl 3 (by decide) (hts (.fieldLink RX3 21 "MistHeaps$Heap" "cell" "I") kc_h3_X7_7) (fun _ h9 => h9) rfl (by decide +kernel) rfl rfl (Nat.le_of_ble_eq_true rfl) dX3_init_22 (fun H locs hP hD hS => ?_)
  have hP : va_P (dC, dI) vwCl [(zo9iiii a0 x y z u0)] H := hP
  have hD : va_D A [(zo9iiii a0 x y z u0)] := hD
  rw [hQ]
  have hP9 := hP.sub (ws' := [(zo9iiii a0 x y z u0)]) [0] rfl
  have hD9 := hD.sub (ws' := [(zo9iiii a0 x y z u0)]) [0] (by decide) rfl
  have hK9 := hK.sub (tys' := []) [] rfl
  exact W.vret hx hb hr (fun tQ htQ hWQ => ⟨⟨(), rfl, trivial, by rw [htQ]; exact hP9, va_K.moved hWQ.alike hK9, hD9⟩, hS.F htQ⟩) hS.2.2 dX3_init_25

theorem kc_h4_X4_0 : (.initialized RX3 : Cond) ∈ wsX4_init := kc_of 67 rfl rfl rfl
theorem kc_h4_X4_1 : (.methodLink RX4 1 yX3_init : Cond) ∈ wsX4_init := kc_of 562 rfl rfl rfl
theorem kc_h4_X4_2 : (.instanceMethod yX3_init : Cond) ∈ wsX4_init := kc_of 225 rfl rfl rfl
set_option maxHeartbeats 4000000 in
set_option maxRecDepth 100000 in
theorem c_h4_X4 (l : Launch) (dC : Nat → ClassId) (dI : Nat → Nat → Nat) (a0 : Nat) (x y z u0 : Int32) (sz : Nat) : Met l yX4_init wsX4_init ({ frames := 2, cells := 0, slots := 0, locals := 36 } : Room) (va_Pc [.ref a0, .int x, .int y, .int z, .int u0] (fun U => U.heap.size = sz ∧ va_P (dC, dI) vwCl [(zo6iiii a0 0 0 0 0)] U.heap ∧ va_K (dC, dI) vwCl [] U ∧ va_D (fun _ => True) [(zo6iiii a0 0 0 0 0)])) (va_Qv (fun (u : Unit) => match u with | () => True) (fun (u : Unit) (t : State) => match u with | () => va_P (dC, dI) vwCl [(zo6iiii a0 x y z u0)] t.heap ∧ va_K (dC, dI) vwCl [] t ∧ va_D (va_A [(zo6iiii a0 0 0 0 0)] sz) [(zo6iiii a0 x y z u0)]) (va_A [(zo6iiii a0 0 0 0 0)] sz)) 0 0 (va_A [(zo6iiii a0 0 0 0 0)] sz) := by
  refine met_ofQ (cc := cX4_init) (maxL := 5) (ret := none) (by decide) rfl ?_
  intro p e s m args below meth c s₁ Q B hml hv hQ
  obtain ⟨rfl, hsz, hP, hK, hD0⟩ := hv
  have hx := B.exec
  have hb := B.bytes
  have hr := B.returns
  have hts := atoms_spec (ws := wsX4_init) B.pre
  have hown : s.vm.findClass RX4 = some m.cls := findClass_of_methodNamed B.named
  have hlocks := B.notSynchronized
  have hin : meth.name = "<init>" := (name_of_methodNamed B.named B.method).1
  subst hsz
  have hD := hD0.self (sz := s.heap.size)
  generalize hAe : va_A [(zo6iiii a0 0 0 0 0)] s.heap.size = A at hD hQ ⊢
  have hA : ∀ q : Nat, s.heap.size ≤ q → A q := fun q h => by rw [← hAe]; exact Or.inr h
  have hS : va_S A s.heap s.heap [] := va_S.rf
  have hl := lv_entry [.ref a0, .int x, .int y, .int z, .int u0] (n := 5) (Nat.le_of_ble_eq_true rfl)
  rw [lg_entry_eq]
  generalize (lg_sl [.ref a0, .int x, .int y, .int z, .int u0] ++ List.replicate (5 - (lg_sl [.ref a0, .int x, .int y, .int z, .int u0]).length) Slot.unset).toArray = ls at hl ⊢
  generalize hag : ([.ref a0, .int x, .int y, .int z, .int u0] : List Value).toArray = args at hts hQ ⊢
  have hl : lv_has ls 5 [(0, .ref a0), (1, .int x), (2, .int y), (3, .int z), (4, .int u0)] := hl
  obtain ⟨H, hH⟩ : ∃ H : Heap, H = s.heap := ⟨_, rfl⟩
  rw [← hH] at hP
  rw [← hH]
  have hS : va_S A s.heap H [] := by rw [hH]; exact hS
  obtain ⟨locs, hlo⟩ : ∃ L : List Loc, L = [] := ⟨_, rfl⟩
  rw [← hlo] at hS
  rw [← hlo]
  clear hH hlo
  refine lv_aload_n hx hb dX4_init_0 rfl (lv_at hl 0 rfl) ?_
  refine lv_iload_n hx hb dX4_init_1 rfl (lv_at hl 1 rfl) ?_
  refine lv_iload_n hx hb dX4_init_2 rfl (lv_at hl 2 rfl) ?_
  refine lv_iload_n hx hb dX4_init_3 rfl (lv_at hl 3 rfl) ?_
  refine lv_iload hx hb dX4_init_4 (lv_at hl 4 rfl) ?_
  have hPc := hP.sub (ws' := [(zo6iiii a0 0 0 0 0)]) [0] rfl
  have hDc := hD.sub (ws' := [(zo6iiii a0 0 0 0 0)]) [0] (by decide) rfl
  have hKc := hK.sub (tys' := []) [] rfl
  have hFc := va_free (wc := [(zo6iiii a0 0 0 0 0)]) hD hS hA [0] rfl
  refine va_callv (va_runI (As := [.int x, .int y, .int z, .int u0]) (rest := []) ⟨hx, hb, hml, hown, hts⟩ (c_h3_X4 l dC dI a0 x y z u0 H.size) (cwI 4 hts ggX4_init_X3_init rfl rfl rfl (hts (.initialized RX3) kc_h4_X4_0) (hts (.methodLink RX4 1 yX3_init) kc_h4_X4_1) (hts (.instanceMethod yX3_init) kc_h4_X4_2) rfl (by decide +kernel) ⟨Nat.le_of_ble_eq_true rfl, Nat.le_of_ble_eq_true rfl⟩) ⟨fun a U g mk q => by obtain ⟨q0, q1, qP, qK, qD⟩ := q; exact ⟨q0, mvz g mk a q1, mvP g mk a qP, mvK g mk a qK, qD⟩, fun U hU hW => ⟨rfl, by rw [hU], by rw [hU]; exact hPc, va_K.moved hW.alike hKc, hDc.weaken (fun _ _ _ _ => trivial)⟩⟩ rfl rfl hl.1 rfl (lv_room (Nat.le_of_ble_eq_true rfl)) dX4_init_6 ⟨Nat.le_of_ble_eq_true rfl, Nat.le_of_ble_eq_true rfl⟩) hS (fun q _ h => hFc q h) hFc (fun u tC H1 locs htC hvm hw_2 hB hz1 hk1 hS => ?_)
  obtain ⟨⟩ := u
  try dsimp only at hw_2 hB
  obtain ⟨hP1, hK1, hD1⟩ := hB
  rw [htC] at hP1
  have hK1 := va_K.moved hvm.symm hK1
  obtain ⟨hP, hD⟩ := va_join (wr := []) (w1 := [(zo6iiii a0 x y z u0)]) hP hD [0] [] rfl rfl (by decide) (by decide) hk1 hFc hP1 hD1
  have hK := (hK.sub (tys' := []) [] rfl).app hK1
  generalize H1 = H at hP hS ⊢
  have hP : va_P (dC, dI) vwCl [(zo6iiii a0 x y z u0)] H := hP
  have hD : va_D A [(zo6iiii a0 x y z u0)] := hD
  have hK : va_K (dC, dI) vwCl [] s := hK
  rw [hQ]
  have hP9 := hP.sub (ws' := [(zo6iiii a0 x y z u0)]) [0] rfl
  have hD9 := hD.sub (ws' := [(zo6iiii a0 x y z u0)]) [0] (by decide) rfl
  have hK9 := hK.sub (tys' := []) [] rfl
  exact W.vret hx hb hr (fun tQ htQ hWQ => ⟨⟨(), rfl, trivial, by rw [htQ]; exact hP9, va_K.moved hWQ.alike hK9, hD9⟩, hS.F htQ⟩) hS.2.2 dX4_init_9

theorem kc_h4_X10_0 : (.initialized RX3 : Cond) ∈ wsX4_init := kc_of 67 rfl rfl rfl
theorem kc_h4_X10_1 : (.methodLink RX4 1 yX3_init : Cond) ∈ wsX4_init := kc_of 562 rfl rfl rfl
theorem kc_h4_X10_2 : (.instanceMethod yX3_init : Cond) ∈ wsX4_init := kc_of 225 rfl rfl rfl
set_option maxHeartbeats 4000000 in
set_option maxRecDepth 100000 in
theorem c_h4_X10 (l : Launch) (dC : Nat → ClassId) (dI : Nat → Nat → Nat) (a0 : Nat) (x y z u0 : Int32) (sz : Nat) : Met l yX4_init wsX4_init ({ frames := 2, cells := 0, slots := 0, locals := 36 } : Room) (va_Pc [.ref a0, .int x, .int y, .int z, .int u0] (fun U => U.heap.size = sz ∧ va_P (dC, dI) vwCl [(zo12iiii a0 0 0 0 0)] U.heap ∧ va_K (dC, dI) vwCl [] U ∧ va_D (fun _ => True) [(zo12iiii a0 0 0 0 0)])) (va_Qv (fun (u : Unit) => match u with | () => True) (fun (u : Unit) (t : State) => match u with | () => va_P (dC, dI) vwCl [(zo12iiii a0 x y z u0)] t.heap ∧ va_K (dC, dI) vwCl [] t ∧ va_D (va_A [(zo12iiii a0 0 0 0 0)] sz) [(zo12iiii a0 x y z u0)]) (va_A [(zo12iiii a0 0 0 0 0)] sz)) 0 0 (va_A [(zo12iiii a0 0 0 0 0)] sz) := by
  refine met_ofQ (cc := cX4_init) (maxL := 5) (ret := none) (by decide) rfl ?_
  intro p e s m args below meth c s₁ Q B hml hv hQ
  obtain ⟨rfl, hsz, hP, hK, hD0⟩ := hv
  have hx := B.exec
  have hb := B.bytes
  have hr := B.returns
  have hts := atoms_spec (ws := wsX4_init) B.pre
  have hown : s.vm.findClass RX4 = some m.cls := findClass_of_methodNamed B.named
  have hlocks := B.notSynchronized
  have hin : meth.name = "<init>" := (name_of_methodNamed B.named B.method).1
  subst hsz
  have hD := hD0.self (sz := s.heap.size)
  generalize hAe : va_A [(zo12iiii a0 0 0 0 0)] s.heap.size = A at hD hQ ⊢
  have hA : ∀ q : Nat, s.heap.size ≤ q → A q := fun q h => by rw [← hAe]; exact Or.inr h
  have hS : va_S A s.heap s.heap [] := va_S.rf
  have hl := lv_entry [.ref a0, .int x, .int y, .int z, .int u0] (n := 5) (Nat.le_of_ble_eq_true rfl)
  rw [lg_entry_eq]
  generalize (lg_sl [.ref a0, .int x, .int y, .int z, .int u0] ++ List.replicate (5 - (lg_sl [.ref a0, .int x, .int y, .int z, .int u0]).length) Slot.unset).toArray = ls at hl ⊢
  generalize hag : ([.ref a0, .int x, .int y, .int z, .int u0] : List Value).toArray = args at hts hQ ⊢
  have hl : lv_has ls 5 [(0, .ref a0), (1, .int x), (2, .int y), (3, .int z), (4, .int u0)] := hl
  obtain ⟨H, hH⟩ : ∃ H : Heap, H = s.heap := ⟨_, rfl⟩
  rw [← hH] at hP
  rw [← hH]
  have hS : va_S A s.heap H [] := by rw [hH]; exact hS
  obtain ⟨locs, hlo⟩ : ∃ L : List Loc, L = [] := ⟨_, rfl⟩
  rw [← hlo] at hS
  rw [← hlo]
  clear hH hlo
  refine lv_aload_n hx hb dX4_init_0 rfl (lv_at hl 0 rfl) ?_
  refine lv_iload_n hx hb dX4_init_1 rfl (lv_at hl 1 rfl) ?_
  refine lv_iload_n hx hb dX4_init_2 rfl (lv_at hl 2 rfl) ?_
  refine lv_iload_n hx hb dX4_init_3 rfl (lv_at hl 3 rfl) ?_
  refine lv_iload hx hb dX4_init_4 (lv_at hl 4 rfl) ?_
  have hPc := hP.sub (ws' := [(zo12iiii a0 0 0 0 0)]) [0] rfl
  have hDc := hD.sub (ws' := [(zo12iiii a0 0 0 0 0)]) [0] (by decide) rfl
  have hKc := hK.sub (tys' := []) [] rfl
  have hFc := va_free (wc := [(zo12iiii a0 0 0 0 0)]) hD hS hA [0] rfl
  refine va_callv (va_runI (As := [.int x, .int y, .int z, .int u0]) (rest := []) ⟨hx, hb, hml, hown, hts⟩ (c_h3_X10 l dC dI a0 x y z u0 H.size) (cwI 4 hts ggX4_init_X3_init rfl rfl rfl (hts (.initialized RX3) kc_h4_X10_0) (hts (.methodLink RX4 1 yX3_init) kc_h4_X10_1) (hts (.instanceMethod yX3_init) kc_h4_X10_2) rfl (by decide +kernel) ⟨Nat.le_of_ble_eq_true rfl, Nat.le_of_ble_eq_true rfl⟩) ⟨fun a U g mk q => by obtain ⟨q0, q1, qP, qK, qD⟩ := q; exact ⟨q0, mvz g mk a q1, mvP g mk a qP, mvK g mk a qK, qD⟩, fun U hU hW => ⟨rfl, by rw [hU], by rw [hU]; exact hPc, va_K.moved hW.alike hKc, hDc.weaken (fun _ _ _ _ => trivial)⟩⟩ rfl rfl hl.1 rfl (lv_room (Nat.le_of_ble_eq_true rfl)) dX4_init_6 ⟨Nat.le_of_ble_eq_true rfl, Nat.le_of_ble_eq_true rfl⟩) hS (fun q _ h => hFc q h) hFc (fun u tC H1 locs htC hvm hw_2 hB hz1 hk1 hS => ?_)
  obtain ⟨⟩ := u
  try dsimp only at hw_2 hB
  obtain ⟨hP1, hK1, hD1⟩ := hB
  rw [htC] at hP1
  have hK1 := va_K.moved hvm.symm hK1
  obtain ⟨hP, hD⟩ := va_join (wr := []) (w1 := [(zo12iiii a0 x y z u0)]) hP hD [0] [] rfl rfl (by decide) (by decide) hk1 hFc hP1 hD1
  have hK := (hK.sub (tys' := []) [] rfl).app hK1
  generalize H1 = H at hP hS ⊢
  have hP : va_P (dC, dI) vwCl [(zo12iiii a0 x y z u0)] H := hP
  have hD : va_D A [(zo12iiii a0 x y z u0)] := hD
  have hK : va_K (dC, dI) vwCl [] s := hK
  rw [hQ]
  have hP9 := hP.sub (ws' := [(zo12iiii a0 x y z u0)]) [0] rfl
  have hD9 := hD.sub (ws' := [(zo12iiii a0 x y z u0)]) [0] (by decide) rfl
  have hK9 := hK.sub (tys' := []) [] rfl
  exact W.vret hx hb hr (fun tQ htQ hWQ => ⟨⟨(), rfl, trivial, by rw [htQ]; exact hP9, va_K.moved hWQ.alike hK9, hD9⟩, hS.F htQ⟩) hS.2.2 dX4_init_9

theorem kc_h6_X6_0 : (.initialized RX3 : Cond) ∈ wsX6_init := kc_of 67 rfl rfl rfl
theorem kc_h6_X6_1 : (.methodLink RX6 1 yX3_init : Cond) ∈ wsX6_init := kc_of 573 rfl rfl rfl
theorem kc_h6_X6_2 : (.instanceMethod yX3_init : Cond) ∈ wsX6_init := kc_of 225 rfl rfl rfl
set_option maxHeartbeats 4000000 in
set_option maxRecDepth 100000 in
theorem c_h6_X6 (l : Launch) (dC : Nat → ClassId) (dI : Nat → Nat → Nat) (a0 : Nat) (x y z u0 : Int32) (sz : Nat) : Met l yX6_init wsX6_init ({ frames := 2, cells := 0, slots := 0, locals := 36 } : Room) (va_Pc [.ref a0, .int x, .int y, .int z, .int u0] (fun U => U.heap.size = sz ∧ va_P (dC, dI) vwCl [(zo8iiii a0 0 0 0 0)] U.heap ∧ va_K (dC, dI) vwCl [] U ∧ va_D (fun _ => True) [(zo8iiii a0 0 0 0 0)])) (va_Qv (fun (u : Unit) => match u with | () => True) (fun (u : Unit) (t : State) => match u with | () => va_P (dC, dI) vwCl [(zo8iiii a0 x y z u0)] t.heap ∧ va_K (dC, dI) vwCl [] t ∧ va_D (va_A [(zo8iiii a0 0 0 0 0)] sz) [(zo8iiii a0 x y z u0)]) (va_A [(zo8iiii a0 0 0 0 0)] sz)) 0 0 (va_A [(zo8iiii a0 0 0 0 0)] sz) := by
  refine met_ofQ (cc := cX6_init) (maxL := 5) (ret := none) (by decide) rfl ?_
  intro p e s m args below meth c s₁ Q B hml hv hQ
  obtain ⟨rfl, hsz, hP, hK, hD0⟩ := hv
  have hx := B.exec
  have hb := B.bytes
  have hr := B.returns
  have hts := atoms_spec (ws := wsX6_init) B.pre
  have hown : s.vm.findClass RX6 = some m.cls := findClass_of_methodNamed B.named
  have hlocks := B.notSynchronized
  have hin : meth.name = "<init>" := (name_of_methodNamed B.named B.method).1
  subst hsz
  have hD := hD0.self (sz := s.heap.size)
  generalize hAe : va_A [(zo8iiii a0 0 0 0 0)] s.heap.size = A at hD hQ ⊢
  have hA : ∀ q : Nat, s.heap.size ≤ q → A q := fun q h => by rw [← hAe]; exact Or.inr h
  have hS : va_S A s.heap s.heap [] := va_S.rf
  have hl := lv_entry [.ref a0, .int x, .int y, .int z, .int u0] (n := 5) (Nat.le_of_ble_eq_true rfl)
  rw [lg_entry_eq]
  generalize (lg_sl [.ref a0, .int x, .int y, .int z, .int u0] ++ List.replicate (5 - (lg_sl [.ref a0, .int x, .int y, .int z, .int u0]).length) Slot.unset).toArray = ls at hl ⊢
  generalize hag : ([.ref a0, .int x, .int y, .int z, .int u0] : List Value).toArray = args at hts hQ ⊢
  have hl : lv_has ls 5 [(0, .ref a0), (1, .int x), (2, .int y), (3, .int z), (4, .int u0)] := hl
  obtain ⟨H, hH⟩ : ∃ H : Heap, H = s.heap := ⟨_, rfl⟩
  rw [← hH] at hP
  rw [← hH]
  have hS : va_S A s.heap H [] := by rw [hH]; exact hS
  obtain ⟨locs, hlo⟩ : ∃ L : List Loc, L = [] := ⟨_, rfl⟩
  rw [← hlo] at hS
  rw [← hlo]
  clear hH hlo
  refine lv_aload_n hx hb dX6_init_0 rfl (lv_at hl 0 rfl) ?_
  refine lv_iload_n hx hb dX6_init_1 rfl (lv_at hl 1 rfl) ?_
  refine lv_iload_n hx hb dX6_init_2 rfl (lv_at hl 2 rfl) ?_
  refine lv_iload_n hx hb dX6_init_3 rfl (lv_at hl 3 rfl) ?_
  refine lv_iload hx hb dX6_init_4 (lv_at hl 4 rfl) ?_
  have hPc := hP.sub (ws' := [(zo8iiii a0 0 0 0 0)]) [0] rfl
  have hDc := hD.sub (ws' := [(zo8iiii a0 0 0 0 0)]) [0] (by decide) rfl
  have hKc := hK.sub (tys' := []) [] rfl
  have hFc := va_free (wc := [(zo8iiii a0 0 0 0 0)]) hD hS hA [0] rfl
  refine va_callv (va_runI (As := [.int x, .int y, .int z, .int u0]) (rest := []) ⟨hx, hb, hml, hown, hts⟩ (c_h3_X6 l dC dI a0 x y z u0 H.size) (cwI 4 hts ggX6_init_X3_init rfl rfl rfl (hts (.initialized RX3) kc_h6_X6_0) (hts (.methodLink RX6 1 yX3_init) kc_h6_X6_1) (hts (.instanceMethod yX3_init) kc_h6_X6_2) rfl (by decide +kernel) ⟨Nat.le_of_ble_eq_true rfl, Nat.le_of_ble_eq_true rfl⟩) ⟨fun a U g mk q => by obtain ⟨q0, q1, qP, qK, qD⟩ := q; exact ⟨q0, mvz g mk a q1, mvP g mk a qP, mvK g mk a qK, qD⟩, fun U hU hW => ⟨rfl, by rw [hU], by rw [hU]; exact hPc, va_K.moved hW.alike hKc, hDc.weaken (fun _ _ _ _ => trivial)⟩⟩ rfl rfl hl.1 rfl (lv_room (Nat.le_of_ble_eq_true rfl)) dX6_init_6 ⟨Nat.le_of_ble_eq_true rfl, Nat.le_of_ble_eq_true rfl⟩) hS (fun q _ h => hFc q h) hFc (fun u tC H1 locs htC hvm hw_2 hB hz1 hk1 hS => ?_)
  obtain ⟨⟩ := u
  try dsimp only at hw_2 hB
  obtain ⟨hP1, hK1, hD1⟩ := hB
  rw [htC] at hP1
  have hK1 := va_K.moved hvm.symm hK1
  obtain ⟨hP, hD⟩ := va_join (wr := []) (w1 := [(zo8iiii a0 x y z u0)]) hP hD [0] [] rfl rfl (by decide) (by decide) hk1 hFc hP1 hD1
  have hK := (hK.sub (tys' := []) [] rfl).app hK1
  generalize H1 = H at hP hS ⊢
  have hP : va_P (dC, dI) vwCl [(zo8iiii a0 x y z u0)] H := hP
  have hD : va_D A [(zo8iiii a0 x y z u0)] := hD
  have hK : va_K (dC, dI) vwCl [] s := hK
  rw [hQ]
  have hP9 := hP.sub (ws' := [(zo8iiii a0 x y z u0)]) [0] rfl
  have hD9 := hD.sub (ws' := [(zo8iiii a0 x y z u0)]) [0] (by decide) rfl
  have hK9 := hK.sub (tys' := []) [] rfl
  exact W.vret hx hb hr (fun tQ htQ hWQ => ⟨⟨(), rfl, trivial, by rw [htQ]; exact hP9, va_K.moved hWQ.alike hK9, hD9⟩, hS.F htQ⟩) hS.2.2 dX6_init_9

theorem kc_h6_X9_0 : (.initialized RX3 : Cond) ∈ wsX6_init := kc_of 67 rfl rfl rfl
theorem kc_h6_X9_1 : (.methodLink RX6 1 yX3_init : Cond) ∈ wsX6_init := kc_of 573 rfl rfl rfl
theorem kc_h6_X9_2 : (.instanceMethod yX3_init : Cond) ∈ wsX6_init := kc_of 225 rfl rfl rfl
set_option maxHeartbeats 4000000 in
set_option maxRecDepth 100000 in
theorem c_h6_X9 (l : Launch) (dC : Nat → ClassId) (dI : Nat → Nat → Nat) (a0 : Nat) (x y z u0 : Int32) (sz : Nat) : Met l yX6_init wsX6_init ({ frames := 2, cells := 0, slots := 0, locals := 36 } : Room) (va_Pc [.ref a0, .int x, .int y, .int z, .int u0] (fun U => U.heap.size = sz ∧ va_P (dC, dI) vwCl [(zo11iiii a0 0 0 0 0)] U.heap ∧ va_K (dC, dI) vwCl [] U ∧ va_D (fun _ => True) [(zo11iiii a0 0 0 0 0)])) (va_Qv (fun (u : Unit) => match u with | () => True) (fun (u : Unit) (t : State) => match u with | () => va_P (dC, dI) vwCl [(zo11iiii a0 x y z u0)] t.heap ∧ va_K (dC, dI) vwCl [] t ∧ va_D (va_A [(zo11iiii a0 0 0 0 0)] sz) [(zo11iiii a0 x y z u0)]) (va_A [(zo11iiii a0 0 0 0 0)] sz)) 0 0 (va_A [(zo11iiii a0 0 0 0 0)] sz) := by
  refine met_ofQ (cc := cX6_init) (maxL := 5) (ret := none) (by decide) rfl ?_
  intro p e s m args below meth c s₁ Q B hml hv hQ
  obtain ⟨rfl, hsz, hP, hK, hD0⟩ := hv
  have hx := B.exec
  have hb := B.bytes
  have hr := B.returns
  have hts := atoms_spec (ws := wsX6_init) B.pre
  have hown : s.vm.findClass RX6 = some m.cls := findClass_of_methodNamed B.named
  have hlocks := B.notSynchronized
  have hin : meth.name = "<init>" := (name_of_methodNamed B.named B.method).1
  subst hsz
  have hD := hD0.self (sz := s.heap.size)
  generalize hAe : va_A [(zo11iiii a0 0 0 0 0)] s.heap.size = A at hD hQ ⊢
  have hA : ∀ q : Nat, s.heap.size ≤ q → A q := fun q h => by rw [← hAe]; exact Or.inr h
  have hS : va_S A s.heap s.heap [] := va_S.rf
  have hl := lv_entry [.ref a0, .int x, .int y, .int z, .int u0] (n := 5) (Nat.le_of_ble_eq_true rfl)
  rw [lg_entry_eq]
  generalize (lg_sl [.ref a0, .int x, .int y, .int z, .int u0] ++ List.replicate (5 - (lg_sl [.ref a0, .int x, .int y, .int z, .int u0]).length) Slot.unset).toArray = ls at hl ⊢
  generalize hag : ([.ref a0, .int x, .int y, .int z, .int u0] : List Value).toArray = args at hts hQ ⊢
  have hl : lv_has ls 5 [(0, .ref a0), (1, .int x), (2, .int y), (3, .int z), (4, .int u0)] := hl
  obtain ⟨H, hH⟩ : ∃ H : Heap, H = s.heap := ⟨_, rfl⟩
  rw [← hH] at hP
  rw [← hH]
  have hS : va_S A s.heap H [] := by rw [hH]; exact hS
  obtain ⟨locs, hlo⟩ : ∃ L : List Loc, L = [] := ⟨_, rfl⟩
  rw [← hlo] at hS
  rw [← hlo]
  clear hH hlo
  refine lv_aload_n hx hb dX6_init_0 rfl (lv_at hl 0 rfl) ?_
  refine lv_iload_n hx hb dX6_init_1 rfl (lv_at hl 1 rfl) ?_
  refine lv_iload_n hx hb dX6_init_2 rfl (lv_at hl 2 rfl) ?_
  refine lv_iload_n hx hb dX6_init_3 rfl (lv_at hl 3 rfl) ?_
  refine lv_iload hx hb dX6_init_4 (lv_at hl 4 rfl) ?_
  have hPc := hP.sub (ws' := [(zo11iiii a0 0 0 0 0)]) [0] rfl
  have hDc := hD.sub (ws' := [(zo11iiii a0 0 0 0 0)]) [0] (by decide) rfl
  have hKc := hK.sub (tys' := []) [] rfl
  have hFc := va_free (wc := [(zo11iiii a0 0 0 0 0)]) hD hS hA [0] rfl
  refine va_callv (va_runI (As := [.int x, .int y, .int z, .int u0]) (rest := []) ⟨hx, hb, hml, hown, hts⟩ (c_h3_X9 l dC dI a0 x y z u0 H.size) (cwI 4 hts ggX6_init_X3_init rfl rfl rfl (hts (.initialized RX3) kc_h6_X9_0) (hts (.methodLink RX6 1 yX3_init) kc_h6_X9_1) (hts (.instanceMethod yX3_init) kc_h6_X9_2) rfl (by decide +kernel) ⟨Nat.le_of_ble_eq_true rfl, Nat.le_of_ble_eq_true rfl⟩) ⟨fun a U g mk q => by obtain ⟨q0, q1, qP, qK, qD⟩ := q; exact ⟨q0, mvz g mk a q1, mvP g mk a qP, mvK g mk a qK, qD⟩, fun U hU hW => ⟨rfl, by rw [hU], by rw [hU]; exact hPc, va_K.moved hW.alike hKc, hDc.weaken (fun _ _ _ _ => trivial)⟩⟩ rfl rfl hl.1 rfl (lv_room (Nat.le_of_ble_eq_true rfl)) dX6_init_6 ⟨Nat.le_of_ble_eq_true rfl, Nat.le_of_ble_eq_true rfl⟩) hS (fun q _ h => hFc q h) hFc (fun u tC H1 locs htC hvm hw_2 hB hz1 hk1 hS => ?_)
  obtain ⟨⟩ := u
  try dsimp only at hw_2 hB
  obtain ⟨hP1, hK1, hD1⟩ := hB
  rw [htC] at hP1
  have hK1 := va_K.moved hvm.symm hK1
  obtain ⟨hP, hD⟩ := va_join (wr := []) (w1 := [(zo11iiii a0 x y z u0)]) hP hD [0] [] rfl rfl (by decide) (by decide) hk1 hFc hP1 hD1
  have hK := (hK.sub (tys' := []) [] rfl).app hK1
  generalize H1 = H at hP hS ⊢
  have hP : va_P (dC, dI) vwCl [(zo11iiii a0 x y z u0)] H := hP
  have hD : va_D A [(zo11iiii a0 x y z u0)] := hD
  have hK : va_K (dC, dI) vwCl [] s := hK
  rw [hQ]
  have hP9 := hP.sub (ws' := [(zo11iiii a0 x y z u0)]) [0] rfl
  have hD9 := hD.sub (ws' := [(zo11iiii a0 x y z u0)]) [0] (by decide) rfl
  have hK9 := hK.sub (tys' := []) [] rfl
  exact W.vret hx hb hr (fun tQ htQ hWQ => ⟨⟨(), rfl, trivial, by rw [htQ]; exact hP9, va_K.moved hWQ.alike hK9, hD9⟩, hS.F htQ⟩) hS.2.2 dX6_init_9

theorem kc_h1_X1_0 : (.initialized RX3 : Cond) ∈ wsX1_init := kc_of 67 rfl rfl rfl
theorem kc_h1_X1_1 : (.methodLink RX1 1 yX3_init : Cond) ∈ wsX1_init := kc_of 584 rfl rfl rfl
theorem kc_h1_X1_2 : (.instanceMethod yX3_init : Cond) ∈ wsX1_init := kc_of 225 rfl rfl rfl
set_option maxHeartbeats 4000000 in
set_option maxRecDepth 100000 in
theorem c_h1_X1 (l : Launch) (dC : Nat → ClassId) (dI : Nat → Nat → Nat) (a0 : Nat) (x y z u0 : Int32) (sz : Nat) : Met l yX1_init wsX1_init ({ frames := 2, cells := 0, slots := 0, locals := 36 } : Room) (va_Pc [.ref a0, .int x, .int y, .int z, .int u0] (fun U => U.heap.size = sz ∧ va_P (dC, dI) vwCl [(zo3iiii a0 0 0 0 0)] U.heap ∧ va_K (dC, dI) vwCl [] U ∧ va_D (fun _ => True) [(zo3iiii a0 0 0 0 0)])) (va_Qv (fun (u : Unit) => match u with | () => True) (fun (u : Unit) (t : State) => match u with | () => va_P (dC, dI) vwCl [(zo3iiii a0 x y z u0)] t.heap ∧ va_K (dC, dI) vwCl [] t ∧ va_D (va_A [(zo3iiii a0 0 0 0 0)] sz) [(zo3iiii a0 x y z u0)]) (va_A [(zo3iiii a0 0 0 0 0)] sz)) 0 0 (va_A [(zo3iiii a0 0 0 0 0)] sz) := by
  refine met_ofQ (cc := cX1_init) (maxL := 5) (ret := none) (by decide) rfl ?_
  intro p e s m args below meth c s₁ Q B hml hv hQ
  obtain ⟨rfl, hsz, hP, hK, hD0⟩ := hv
  have hx := B.exec
  have hb := B.bytes
  have hr := B.returns
  have hts := atoms_spec (ws := wsX1_init) B.pre
  have hown : s.vm.findClass RX1 = some m.cls := findClass_of_methodNamed B.named
  have hlocks := B.notSynchronized
  have hin : meth.name = "<init>" := (name_of_methodNamed B.named B.method).1
  subst hsz
  have hD := hD0.self (sz := s.heap.size)
  generalize hAe : va_A [(zo3iiii a0 0 0 0 0)] s.heap.size = A at hD hQ ⊢
  have hA : ∀ q : Nat, s.heap.size ≤ q → A q := fun q h => by rw [← hAe]; exact Or.inr h
  have hS : va_S A s.heap s.heap [] := va_S.rf
  have hl := lv_entry [.ref a0, .int x, .int y, .int z, .int u0] (n := 5) (Nat.le_of_ble_eq_true rfl)
  rw [lg_entry_eq]
  generalize (lg_sl [.ref a0, .int x, .int y, .int z, .int u0] ++ List.replicate (5 - (lg_sl [.ref a0, .int x, .int y, .int z, .int u0]).length) Slot.unset).toArray = ls at hl ⊢
  generalize hag : ([.ref a0, .int x, .int y, .int z, .int u0] : List Value).toArray = args at hts hQ ⊢
  have hl : lv_has ls 5 [(0, .ref a0), (1, .int x), (2, .int y), (3, .int z), (4, .int u0)] := hl
  obtain ⟨H, hH⟩ : ∃ H : Heap, H = s.heap := ⟨_, rfl⟩
  rw [← hH] at hP
  rw [← hH]
  have hS : va_S A s.heap H [] := by rw [hH]; exact hS
  obtain ⟨locs, hlo⟩ : ∃ L : List Loc, L = [] := ⟨_, rfl⟩
  rw [← hlo] at hS
  rw [← hlo]
  clear hH hlo
  refine lv_aload_n hx hb dX1_init_0 rfl (lv_at hl 0 rfl) ?_
  refine lv_iload_n hx hb dX1_init_1 rfl (lv_at hl 1 rfl) ?_
  refine lv_iload_n hx hb dX1_init_2 rfl (lv_at hl 2 rfl) ?_
  refine lv_iload_n hx hb dX1_init_3 rfl (lv_at hl 3 rfl) ?_
  refine lv_iload hx hb dX1_init_4 (lv_at hl 4 rfl) ?_
  have hPc := hP.sub (ws' := [(zo3iiii a0 0 0 0 0)]) [0] rfl
  have hDc := hD.sub (ws' := [(zo3iiii a0 0 0 0 0)]) [0] (by decide) rfl
  have hKc := hK.sub (tys' := []) [] rfl
  have hFc := va_free (wc := [(zo3iiii a0 0 0 0 0)]) hD hS hA [0] rfl
  refine va_callv (va_runI (As := [.int x, .int y, .int z, .int u0]) (rest := []) ⟨hx, hb, hml, hown, hts⟩ (c_h3_X1 l dC dI a0 x y z u0 H.size) (cwI 4 hts ggX1_init_X3_init rfl rfl rfl (hts (.initialized RX3) kc_h1_X1_0) (hts (.methodLink RX1 1 yX3_init) kc_h1_X1_1) (hts (.instanceMethod yX3_init) kc_h1_X1_2) rfl (by decide +kernel) ⟨Nat.le_of_ble_eq_true rfl, Nat.le_of_ble_eq_true rfl⟩) ⟨fun a U g mk q => by obtain ⟨q0, q1, qP, qK, qD⟩ := q; exact ⟨q0, mvz g mk a q1, mvP g mk a qP, mvK g mk a qK, qD⟩, fun U hU hW => ⟨rfl, by rw [hU], by rw [hU]; exact hPc, va_K.moved hW.alike hKc, hDc.weaken (fun _ _ _ _ => trivial)⟩⟩ rfl rfl hl.1 rfl (lv_room (Nat.le_of_ble_eq_true rfl)) dX1_init_6 ⟨Nat.le_of_ble_eq_true rfl, Nat.le_of_ble_eq_true rfl⟩) hS (fun q _ h => hFc q h) hFc (fun u tC H1 locs htC hvm hw_2 hB hz1 hk1 hS => ?_)
  obtain ⟨⟩ := u
  try dsimp only at hw_2 hB
  obtain ⟨hP1, hK1, hD1⟩ := hB
  rw [htC] at hP1
  have hK1 := va_K.moved hvm.symm hK1
  obtain ⟨hP, hD⟩ := va_join (wr := []) (w1 := [(zo3iiii a0 x y z u0)]) hP hD [0] [] rfl rfl (by decide) (by decide) hk1 hFc hP1 hD1
  have hK := (hK.sub (tys' := []) [] rfl).app hK1
  generalize H1 = H at hP hS ⊢
  have hP : va_P (dC, dI) vwCl [(zo3iiii a0 x y z u0)] H := hP
  have hD : va_D A [(zo3iiii a0 x y z u0)] := hD
  have hK : va_K (dC, dI) vwCl [] s := hK
  rw [hQ]
  have hP9 := hP.sub (ws' := [(zo3iiii a0 x y z u0)]) [0] rfl
  have hD9 := hD.sub (ws' := [(zo3iiii a0 x y z u0)]) [0] (by decide) rfl
  have hK9 := hK.sub (tys' := []) [] rfl
  exact W.vret hx hb hr (fun tQ htQ hWQ => ⟨⟨(), rfl, trivial, by rw [htQ]; exact hP9, va_K.moved hWQ.alike hK9, hD9⟩, hS.F htQ⟩) hS.2.2 dX1_init_9

theorem kc_h1_X7_0 : (.initialized RX3 : Cond) ∈ wsX1_init := kc_of 67 rfl rfl rfl
theorem kc_h1_X7_1 : (.methodLink RX1 1 yX3_init : Cond) ∈ wsX1_init := kc_of 584 rfl rfl rfl
theorem kc_h1_X7_2 : (.instanceMethod yX3_init : Cond) ∈ wsX1_init := kc_of 225 rfl rfl rfl
set_option maxHeartbeats 4000000 in
set_option maxRecDepth 100000 in
theorem c_h1_X7 (l : Launch) (dC : Nat → ClassId) (dI : Nat → Nat → Nat) (a0 : Nat) (x y z u0 : Int32) (sz : Nat) : Met l yX1_init wsX1_init ({ frames := 2, cells := 0, slots := 0, locals := 36 } : Room) (va_Pc [.ref a0, .int x, .int y, .int z, .int u0] (fun U => U.heap.size = sz ∧ va_P (dC, dI) vwCl [(zo9iiii a0 0 0 0 0)] U.heap ∧ va_K (dC, dI) vwCl [] U ∧ va_D (fun _ => True) [(zo9iiii a0 0 0 0 0)])) (va_Qv (fun (u : Unit) => match u with | () => True) (fun (u : Unit) (t : State) => match u with | () => va_P (dC, dI) vwCl [(zo9iiii a0 x y z u0)] t.heap ∧ va_K (dC, dI) vwCl [] t ∧ va_D (va_A [(zo9iiii a0 0 0 0 0)] sz) [(zo9iiii a0 x y z u0)]) (va_A [(zo9iiii a0 0 0 0 0)] sz)) 0 0 (va_A [(zo9iiii a0 0 0 0 0)] sz) := by
  refine met_ofQ (cc := cX1_init) (maxL := 5) (ret := none) (by decide) rfl ?_
  intro p e s m args below meth c s₁ Q B hml hv hQ
  obtain ⟨rfl, hsz, hP, hK, hD0⟩ := hv
  have hx := B.exec
  have hb := B.bytes
  have hr := B.returns
  have hts := atoms_spec (ws := wsX1_init) B.pre
  have hown : s.vm.findClass RX1 = some m.cls := findClass_of_methodNamed B.named
  have hlocks := B.notSynchronized
  have hin : meth.name = "<init>" := (name_of_methodNamed B.named B.method).1
  subst hsz
  have hD := hD0.self (sz := s.heap.size)
  generalize hAe : va_A [(zo9iiii a0 0 0 0 0)] s.heap.size = A at hD hQ ⊢
  have hA : ∀ q : Nat, s.heap.size ≤ q → A q := fun q h => by rw [← hAe]; exact Or.inr h
  have hS : va_S A s.heap s.heap [] := va_S.rf
  have hl := lv_entry [.ref a0, .int x, .int y, .int z, .int u0] (n := 5) (Nat.le_of_ble_eq_true rfl)
  rw [lg_entry_eq]
  generalize (lg_sl [.ref a0, .int x, .int y, .int z, .int u0] ++ List.replicate (5 - (lg_sl [.ref a0, .int x, .int y, .int z, .int u0]).length) Slot.unset).toArray = ls at hl ⊢
  generalize hag : ([.ref a0, .int x, .int y, .int z, .int u0] : List Value).toArray = args at hts hQ ⊢
  have hl : lv_has ls 5 [(0, .ref a0), (1, .int x), (2, .int y), (3, .int z), (4, .int u0)] := hl
  obtain ⟨H, hH⟩ : ∃ H : Heap, H = s.heap := ⟨_, rfl⟩
  rw [← hH] at hP
  rw [← hH]
  have hS : va_S A s.heap H [] := by rw [hH]; exact hS
  obtain ⟨locs, hlo⟩ : ∃ L : List Loc, L = [] := ⟨_, rfl⟩
  rw [← hlo] at hS
  rw [← hlo]
  clear hH hlo
  refine lv_aload_n hx hb dX1_init_0 rfl (lv_at hl 0 rfl) ?_
  refine lv_iload_n hx hb dX1_init_1 rfl (lv_at hl 1 rfl) ?_
  refine lv_iload_n hx hb dX1_init_2 rfl (lv_at hl 2 rfl) ?_
  refine lv_iload_n hx hb dX1_init_3 rfl (lv_at hl 3 rfl) ?_
  refine lv_iload hx hb dX1_init_4 (lv_at hl 4 rfl) ?_
  have hPc := hP.sub (ws' := [(zo9iiii a0 0 0 0 0)]) [0] rfl
  have hDc := hD.sub (ws' := [(zo9iiii a0 0 0 0 0)]) [0] (by decide) rfl
  have hKc := hK.sub (tys' := []) [] rfl
  have hFc := va_free (wc := [(zo9iiii a0 0 0 0 0)]) hD hS hA [0] rfl
  refine va_callv (va_runI (As := [.int x, .int y, .int z, .int u0]) (rest := []) ⟨hx, hb, hml, hown, hts⟩ (c_h3_X7 l dC dI a0 x y z u0 H.size) (cwI 4 hts ggX1_init_X3_init rfl rfl rfl (hts (.initialized RX3) kc_h1_X7_0) (hts (.methodLink RX1 1 yX3_init) kc_h1_X7_1) (hts (.instanceMethod yX3_init) kc_h1_X7_2) rfl (by decide +kernel) ⟨Nat.le_of_ble_eq_true rfl, Nat.le_of_ble_eq_true rfl⟩) ⟨fun a U g mk q => by obtain ⟨q0, q1, qP, qK, qD⟩ := q; exact ⟨q0, mvz g mk a q1, mvP g mk a qP, mvK g mk a qK, qD⟩, fun U hU hW => ⟨rfl, by rw [hU], by rw [hU]; exact hPc, va_K.moved hW.alike hKc, hDc.weaken (fun _ _ _ _ => trivial)⟩⟩ rfl rfl hl.1 rfl (lv_room (Nat.le_of_ble_eq_true rfl)) dX1_init_6 ⟨Nat.le_of_ble_eq_true rfl, Nat.le_of_ble_eq_true rfl⟩) hS (fun q _ h => hFc q h) hFc (fun u tC H1 locs htC hvm hw_2 hB hz1 hk1 hS => ?_)
  obtain ⟨⟩ := u
  try dsimp only at hw_2 hB
  obtain ⟨hP1, hK1, hD1⟩ := hB
  rw [htC] at hP1
  have hK1 := va_K.moved hvm.symm hK1
  obtain ⟨hP, hD⟩ := va_join (wr := []) (w1 := [(zo9iiii a0 x y z u0)]) hP hD [0] [] rfl rfl (by decide) (by decide) hk1 hFc hP1 hD1
  have hK := (hK.sub (tys' := []) [] rfl).app hK1
  generalize H1 = H at hP hS ⊢
  have hP : va_P (dC, dI) vwCl [(zo9iiii a0 x y z u0)] H := hP
  have hD : va_D A [(zo9iiii a0 x y z u0)] := hD
  have hK : va_K (dC, dI) vwCl [] s := hK
  rw [hQ]
  have hP9 := hP.sub (ws' := [(zo9iiii a0 x y z u0)]) [0] rfl
  have hD9 := hD.sub (ws' := [(zo9iiii a0 x y z u0)]) [0] (by decide) rfl
  have hK9 := hK.sub (tys' := []) [] rfl
  exact W.vret hx hb hr (fun tQ htQ hWQ => ⟨⟨(), rfl, trivial, by rw [htQ]; exact hP9, va_K.moved hWQ.alike hK9, hD9⟩, hS.F htQ⟩) hS.2.2 dX1_init_9

theorem kc_h10_X10_0 : (.initialized RX4 : Cond) ∈ wsX10_init := kc_of 81 rfl rfl rfl
theorem kc_h10_X10_1 : (.methodLink RX10 3 yX4_init : Cond) ∈ wsX10_init := kc_of 595 rfl rfl rfl
theorem kc_h10_X10_2 : (.instanceMethod yX4_init : Cond) ∈ wsX10_init := kc_of 560 rfl rfl rfl
set_option maxHeartbeats 4000000 in
set_option maxRecDepth 100000 in
theorem c_h10_X10 (l : Launch) (dC : Nat → ClassId) (dI : Nat → Nat → Nat) (a0 : Nat) (x y z u0 : Int32) (sz : Nat) : Met l yX10_init wsX10_init ({ frames := 3, cells := 0, slots := 0, locals := 60 } : Room) (va_Pc [.ref a0, .int x, .int y, .int z, .int u0] (fun U => U.heap.size = sz ∧ va_P (dC, dI) vwCl [(zo12iiii a0 0 0 0 0)] U.heap ∧ va_K (dC, dI) vwCl [] U ∧ va_D (fun _ => True) [(zo12iiii a0 0 0 0 0)])) (va_Qv (fun (u : Unit) => match u with | () => True) (fun (u : Unit) (t : State) => match u with | () => va_P (dC, dI) vwCl [(zo12iiii a0 x y z u0)] t.heap ∧ va_K (dC, dI) vwCl [] t ∧ va_D (va_A [(zo12iiii a0 0 0 0 0)] sz) [(zo12iiii a0 x y z u0)]) (va_A [(zo12iiii a0 0 0 0 0)] sz)) 0 0 (va_A [(zo12iiii a0 0 0 0 0)] sz) := by
  refine met_ofQ (cc := cX10_init) (maxL := 5) (ret := none) (by decide) rfl ?_
  intro p e s m args below meth c s₁ Q B hml hv hQ
  obtain ⟨rfl, hsz, hP, hK, hD0⟩ := hv
  have hx := B.exec
  have hb := B.bytes
  have hr := B.returns
  have hts := atoms_spec (ws := wsX10_init) B.pre
  have hown : s.vm.findClass RX10 = some m.cls := findClass_of_methodNamed B.named
  have hlocks := B.notSynchronized
  have hin : meth.name = "<init>" := (name_of_methodNamed B.named B.method).1
  subst hsz
  have hD := hD0.self (sz := s.heap.size)
  generalize hAe : va_A [(zo12iiii a0 0 0 0 0)] s.heap.size = A at hD hQ ⊢
  have hA : ∀ q : Nat, s.heap.size ≤ q → A q := fun q h => by rw [← hAe]; exact Or.inr h
  have hS : va_S A s.heap s.heap [] := va_S.rf
  have hl := lv_entry [.ref a0, .int x, .int y, .int z, .int u0] (n := 5) (Nat.le_of_ble_eq_true rfl)
  rw [lg_entry_eq]
  generalize (lg_sl [.ref a0, .int x, .int y, .int z, .int u0] ++ List.replicate (5 - (lg_sl [.ref a0, .int x, .int y, .int z, .int u0]).length) Slot.unset).toArray = ls at hl ⊢
  generalize hag : ([.ref a0, .int x, .int y, .int z, .int u0] : List Value).toArray = args at hts hQ ⊢
  have hl : lv_has ls 5 [(0, .ref a0), (1, .int x), (2, .int y), (3, .int z), (4, .int u0)] := hl
  obtain ⟨H, hH⟩ : ∃ H : Heap, H = s.heap := ⟨_, rfl⟩
  rw [← hH] at hP
  rw [← hH]
  have hS : va_S A s.heap H [] := by rw [hH]; exact hS
  obtain ⟨locs, hlo⟩ : ∃ L : List Loc, L = [] := ⟨_, rfl⟩
  rw [← hlo] at hS
  rw [← hlo]
  clear hH hlo
  refine lv_aload_n hx hb dX10_init_0 rfl (lv_at hl 0 rfl) ?_
  refine lv_iload_n hx hb dX10_init_1 rfl (lv_at hl 1 rfl) ?_
  refine lv_iload_n hx hb dX10_init_2 rfl (lv_at hl 2 rfl) ?_
  refine lv_iload_n hx hb dX10_init_3 rfl (lv_at hl 3 rfl) ?_
  refine lv_iload hx hb dX10_init_4 (lv_at hl 4 rfl) ?_
  have hPc := hP.sub (ws' := [(zo12iiii a0 0 0 0 0)]) [0] rfl
  have hDc := hD.sub (ws' := [(zo12iiii a0 0 0 0 0)]) [0] (by decide) rfl
  have hKc := hK.sub (tys' := []) [] rfl
  have hFc := va_free (wc := [(zo12iiii a0 0 0 0 0)]) hD hS hA [0] rfl
  refine va_callv (va_runI (As := [.int x, .int y, .int z, .int u0]) (rest := []) ⟨hx, hb, hml, hown, hts⟩ (c_h4_X10 l dC dI a0 x y z u0 H.size) (cwI 4 hts ggX10_init_X4_init rfl rfl rfl (hts (.initialized RX4) kc_h10_X10_0) (hts (.methodLink RX10 3 yX4_init) kc_h10_X10_1) (hts (.instanceMethod yX4_init) kc_h10_X10_2) rfl (by decide +kernel) ⟨Nat.le_of_ble_eq_true rfl, Nat.le_of_ble_eq_true rfl⟩) ⟨fun a U g mk q => by obtain ⟨q0, q1, qP, qK, qD⟩ := q; exact ⟨q0, mvz g mk a q1, mvP g mk a qP, mvK g mk a qK, qD⟩, fun U hU hW => ⟨rfl, by rw [hU], by rw [hU]; exact hPc, va_K.moved hW.alike hKc, hDc.weaken (fun _ _ _ _ => trivial)⟩⟩ rfl rfl hl.1 rfl (lv_room (Nat.le_of_ble_eq_true rfl)) dX10_init_6 ⟨Nat.le_of_ble_eq_true rfl, Nat.le_of_ble_eq_true rfl⟩) hS (fun q _ h => hFc q h) hFc (fun u tC H1 locs htC hvm hw_2 hB hz1 hk1 hS => ?_)
  obtain ⟨⟩ := u
  try dsimp only at hw_2 hB
  obtain ⟨hP1, hK1, hD1⟩ := hB
  rw [htC] at hP1
  have hK1 := va_K.moved hvm.symm hK1
  obtain ⟨hP, hD⟩ := va_join (wr := []) (w1 := [(zo12iiii a0 x y z u0)]) hP hD [0] [] rfl rfl (by decide) (by decide) hk1 hFc hP1 hD1
  have hK := (hK.sub (tys' := []) [] rfl).app hK1
  generalize H1 = H at hP hS ⊢
  have hP : va_P (dC, dI) vwCl [(zo12iiii a0 x y z u0)] H := hP
  have hD : va_D A [(zo12iiii a0 x y z u0)] := hD
  have hK : va_K (dC, dI) vwCl [] s := hK
  rw [hQ]
  have hP9 := hP.sub (ws' := [(zo12iiii a0 x y z u0)]) [0] rfl
  have hD9 := hD.sub (ws' := [(zo12iiii a0 x y z u0)]) [0] (by decide) rfl
  have hK9 := hK.sub (tys' := []) [] rfl
  exact W.vret hx hb hr (fun tQ htQ hWQ => ⟨⟨(), rfl, trivial, by rw [htQ]; exact hP9, va_K.moved hWQ.alike hK9, hD9⟩, hS.F htQ⟩) hS.2.2 dX10_init_9

theorem kc_h9_X9_0 : (.initialized RX6 : Cond) ∈ wsX9_init := kc_of 82 rfl rfl rfl
theorem kc_h9_X9_1 : (.methodLink RX9 1 yX6_init : Cond) ∈ wsX9_init := kc_of 606 rfl rfl rfl
theorem kc_h9_X9_2 : (.instanceMethod yX6_init : Cond) ∈ wsX9_init := kc_of 571 rfl rfl rfl
set_option maxHeartbeats 4000000 in
set_option maxRecDepth 100000 in
theorem c_h9_X9 (l : Launch) (dC : Nat → ClassId) (dI : Nat → Nat → Nat) (a0 : Nat) (x y z u0 : Int32) (sz : Nat) : Met l yX9_init wsX9_init ({ frames := 3, cells := 0, slots := 0, locals := 60 } : Room) (va_Pc [.ref a0, .int x, .int y, .int z, .int u0] (fun U => U.heap.size = sz ∧ va_P (dC, dI) vwCl [(zo11iiii a0 0 0 0 0)] U.heap ∧ va_K (dC, dI) vwCl [] U ∧ va_D (fun _ => True) [(zo11iiii a0 0 0 0 0)])) (va_Qv (fun (u : Unit) => match u with | () => True) (fun (u : Unit) (t : State) => match u with | () => va_P (dC, dI) vwCl [(zo11iiii a0 x y z u0)] t.heap ∧ va_K (dC, dI) vwCl [] t ∧ va_D (va_A [(zo11iiii a0 0 0 0 0)] sz) [(zo11iiii a0 x y z u0)]) (va_A [(zo11iiii a0 0 0 0 0)] sz)) 0 0 (va_A [(zo11iiii a0 0 0 0 0)] sz) := by
  refine met_ofQ (cc := cX9_init) (maxL := 5) (ret := none) (by decide) rfl ?_
  intro p e s m args below meth c s₁ Q B hml hv hQ
  obtain ⟨rfl, hsz, hP, hK, hD0⟩ := hv
  have hx := B.exec
  have hb := B.bytes
  have hr := B.returns
  have hts := atoms_spec (ws := wsX9_init) B.pre
  have hown : s.vm.findClass RX9 = some m.cls := findClass_of_methodNamed B.named
  have hlocks := B.notSynchronized
  have hin : meth.name = "<init>" := (name_of_methodNamed B.named B.method).1
  subst hsz
  have hD := hD0.self (sz := s.heap.size)
  generalize hAe : va_A [(zo11iiii a0 0 0 0 0)] s.heap.size = A at hD hQ ⊢
  have hA : ∀ q : Nat, s.heap.size ≤ q → A q := fun q h => by rw [← hAe]; exact Or.inr h
  have hS : va_S A s.heap s.heap [] := va_S.rf
  have hl := lv_entry [.ref a0, .int x, .int y, .int z, .int u0] (n := 5) (Nat.le_of_ble_eq_true rfl)
  rw [lg_entry_eq]
  generalize (lg_sl [.ref a0, .int x, .int y, .int z, .int u0] ++ List.replicate (5 - (lg_sl [.ref a0, .int x, .int y, .int z, .int u0]).length) Slot.unset).toArray = ls at hl ⊢
  generalize hag : ([.ref a0, .int x, .int y, .int z, .int u0] : List Value).toArray = args at hts hQ ⊢
  have hl : lv_has ls 5 [(0, .ref a0), (1, .int x), (2, .int y), (3, .int z), (4, .int u0)] := hl
  obtain ⟨H, hH⟩ : ∃ H : Heap, H = s.heap := ⟨_, rfl⟩
  rw [← hH] at hP
  rw [← hH]
  have hS : va_S A s.heap H [] := by rw [hH]; exact hS
  obtain ⟨locs, hlo⟩ : ∃ L : List Loc, L = [] := ⟨_, rfl⟩
  rw [← hlo] at hS
  rw [← hlo]
  clear hH hlo
  refine lv_aload_n hx hb dX9_init_0 rfl (lv_at hl 0 rfl) ?_
  refine lv_iload_n hx hb dX9_init_1 rfl (lv_at hl 1 rfl) ?_
  refine lv_iload_n hx hb dX9_init_2 rfl (lv_at hl 2 rfl) ?_
  refine lv_iload_n hx hb dX9_init_3 rfl (lv_at hl 3 rfl) ?_
  refine lv_iload hx hb dX9_init_4 (lv_at hl 4 rfl) ?_
  have hPc := hP.sub (ws' := [(zo11iiii a0 0 0 0 0)]) [0] rfl
  have hDc := hD.sub (ws' := [(zo11iiii a0 0 0 0 0)]) [0] (by decide) rfl
  have hKc := hK.sub (tys' := []) [] rfl
  have hFc := va_free (wc := [(zo11iiii a0 0 0 0 0)]) hD hS hA [0] rfl
  refine va_callv (va_runI (As := [.int x, .int y, .int z, .int u0]) (rest := []) ⟨hx, hb, hml, hown, hts⟩ (c_h6_X9 l dC dI a0 x y z u0 H.size) (cwI 4 hts ggX9_init_X6_init rfl rfl rfl (hts (.initialized RX6) kc_h9_X9_0) (hts (.methodLink RX9 1 yX6_init) kc_h9_X9_1) (hts (.instanceMethod yX6_init) kc_h9_X9_2) rfl (by decide +kernel) ⟨Nat.le_of_ble_eq_true rfl, Nat.le_of_ble_eq_true rfl⟩) ⟨fun a U g mk q => by obtain ⟨q0, q1, qP, qK, qD⟩ := q; exact ⟨q0, mvz g mk a q1, mvP g mk a qP, mvK g mk a qK, qD⟩, fun U hU hW => ⟨rfl, by rw [hU], by rw [hU]; exact hPc, va_K.moved hW.alike hKc, hDc.weaken (fun _ _ _ _ => trivial)⟩⟩ rfl rfl hl.1 rfl (lv_room (Nat.le_of_ble_eq_true rfl)) dX9_init_6 ⟨Nat.le_of_ble_eq_true rfl, Nat.le_of_ble_eq_true rfl⟩) hS (fun q _ h => hFc q h) hFc (fun u tC H1 locs htC hvm hw_2 hB hz1 hk1 hS => ?_)
  obtain ⟨⟩ := u
  try dsimp only at hw_2 hB
  obtain ⟨hP1, hK1, hD1⟩ := hB
  rw [htC] at hP1
  have hK1 := va_K.moved hvm.symm hK1
  obtain ⟨hP, hD⟩ := va_join (wr := []) (w1 := [(zo11iiii a0 x y z u0)]) hP hD [0] [] rfl rfl (by decide) (by decide) hk1 hFc hP1 hD1
  have hK := (hK.sub (tys' := []) [] rfl).app hK1
  generalize H1 = H at hP hS ⊢
  have hP : va_P (dC, dI) vwCl [(zo11iiii a0 x y z u0)] H := hP
  have hD : va_D A [(zo11iiii a0 x y z u0)] := hD
  have hK : va_K (dC, dI) vwCl [] s := hK
  rw [hQ]
  have hP9 := hP.sub (ws' := [(zo11iiii a0 x y z u0)]) [0] rfl
  have hD9 := hD.sub (ws' := [(zo11iiii a0 x y z u0)]) [0] (by decide) rfl
  have hK9 := hK.sub (tys' := []) [] rfl
  exact W.vret hx hb hr (fun tQ htQ hWQ => ⟨⟨(), rfl, trivial, by rw [htQ]; exact hP9, va_K.moved hWQ.alike hK9, hD9⟩, hS.F htQ⟩) hS.2.2 dX9_init_9

theorem kc_h7_X7_0 : (.initialized RX1 : Cond) ∈ wsX7_init := kc_of 83 rfl rfl rfl
theorem kc_h7_X7_1 : (.methodLink RX7 1 yX1_init : Cond) ∈ wsX7_init := kc_of 617 rfl rfl rfl
theorem kc_h7_X7_2 : (.instanceMethod yX1_init : Cond) ∈ wsX7_init := kc_of 582 rfl rfl rfl
set_option maxHeartbeats 4000000 in
set_option maxRecDepth 100000 in
theorem c_h7_X7 (l : Launch) (dC : Nat → ClassId) (dI : Nat → Nat → Nat) (a0 : Nat) (x y z u0 : Int32) (sz : Nat) : Met l yX7_init wsX7_init ({ frames := 3, cells := 0, slots := 0, locals := 60 } : Room) (va_Pc [.ref a0, .int x, .int y, .int z, .int u0] (fun U => U.heap.size = sz ∧ va_P (dC, dI) vwCl [(zo9iiii a0 0 0 0 0)] U.heap ∧ va_K (dC, dI) vwCl [] U ∧ va_D (fun _ => True) [(zo9iiii a0 0 0 0 0)])) (va_Qv (fun (u : Unit) => match u with | () => True) (fun (u : Unit) (t : State) => match u with | () => va_P (dC, dI) vwCl [(zo9iiii a0 x y z u0)] t.heap ∧ va_K (dC, dI) vwCl [] t ∧ va_D (va_A [(zo9iiii a0 0 0 0 0)] sz) [(zo9iiii a0 x y z u0)]) (va_A [(zo9iiii a0 0 0 0 0)] sz)) 0 0 (va_A [(zo9iiii a0 0 0 0 0)] sz) := by
  refine met_ofQ (cc := cX7_init) (maxL := 5) (ret := none) (by decide) rfl ?_
  intro p e s m args below meth c s₁ Q B hml hv hQ
  obtain ⟨rfl, hsz, hP, hK, hD0⟩ := hv
  have hx := B.exec
  have hb := B.bytes
  have hr := B.returns
  have hts := atoms_spec (ws := wsX7_init) B.pre
  have hown : s.vm.findClass RX7 = some m.cls := findClass_of_methodNamed B.named
  have hlocks := B.notSynchronized
  have hin : meth.name = "<init>" := (name_of_methodNamed B.named B.method).1
  subst hsz
  have hD := hD0.self (sz := s.heap.size)
  generalize hAe : va_A [(zo9iiii a0 0 0 0 0)] s.heap.size = A at hD hQ ⊢
  have hA : ∀ q : Nat, s.heap.size ≤ q → A q := fun q h => by rw [← hAe]; exact Or.inr h
  have hS : va_S A s.heap s.heap [] := va_S.rf
  have hl := lv_entry [.ref a0, .int x, .int y, .int z, .int u0] (n := 5) (Nat.le_of_ble_eq_true rfl)
  rw [lg_entry_eq]
  generalize (lg_sl [.ref a0, .int x, .int y, .int z, .int u0] ++ List.replicate (5 - (lg_sl [.ref a0, .int x, .int y, .int z, .int u0]).length) Slot.unset).toArray = ls at hl ⊢
  generalize hag : ([.ref a0, .int x, .int y, .int z, .int u0] : List Value).toArray = args at hts hQ ⊢
  have hl : lv_has ls 5 [(0, .ref a0), (1, .int x), (2, .int y), (3, .int z), (4, .int u0)] := hl
  obtain ⟨H, hH⟩ : ∃ H : Heap, H = s.heap := ⟨_, rfl⟩
  rw [← hH] at hP
  rw [← hH]
  have hS : va_S A s.heap H [] := by rw [hH]; exact hS
  obtain ⟨locs, hlo⟩ : ∃ L : List Loc, L = [] := ⟨_, rfl⟩
  rw [← hlo] at hS
  rw [← hlo]
  clear hH hlo
  refine lv_aload_n hx hb dX7_init_0 rfl (lv_at hl 0 rfl) ?_
  refine lv_iload_n hx hb dX7_init_1 rfl (lv_at hl 1 rfl) ?_
  refine lv_iload_n hx hb dX7_init_2 rfl (lv_at hl 2 rfl) ?_
  refine lv_iload_n hx hb dX7_init_3 rfl (lv_at hl 3 rfl) ?_
  refine lv_iload hx hb dX7_init_4 (lv_at hl 4 rfl) ?_
  have hPc := hP.sub (ws' := [(zo9iiii a0 0 0 0 0)]) [0] rfl
  have hDc := hD.sub (ws' := [(zo9iiii a0 0 0 0 0)]) [0] (by decide) rfl
  have hKc := hK.sub (tys' := []) [] rfl
  have hFc := va_free (wc := [(zo9iiii a0 0 0 0 0)]) hD hS hA [0] rfl
  refine va_callv (va_runI (As := [.int x, .int y, .int z, .int u0]) (rest := []) ⟨hx, hb, hml, hown, hts⟩ (c_h1_X7 l dC dI a0 x y z u0 H.size) (cwI 4 hts ggX7_init_X1_init rfl rfl rfl (hts (.initialized RX1) kc_h7_X7_0) (hts (.methodLink RX7 1 yX1_init) kc_h7_X7_1) (hts (.instanceMethod yX1_init) kc_h7_X7_2) rfl (by decide +kernel) ⟨Nat.le_of_ble_eq_true rfl, Nat.le_of_ble_eq_true rfl⟩) ⟨fun a U g mk q => by obtain ⟨q0, q1, qP, qK, qD⟩ := q; exact ⟨q0, mvz g mk a q1, mvP g mk a qP, mvK g mk a qK, qD⟩, fun U hU hW => ⟨rfl, by rw [hU], by rw [hU]; exact hPc, va_K.moved hW.alike hKc, hDc.weaken (fun _ _ _ _ => trivial)⟩⟩ rfl rfl hl.1 rfl (lv_room (Nat.le_of_ble_eq_true rfl)) dX7_init_6 ⟨Nat.le_of_ble_eq_true rfl, Nat.le_of_ble_eq_true rfl⟩) hS (fun q _ h => hFc q h) hFc (fun u tC H1 locs htC hvm hw_2 hB hz1 hk1 hS => ?_)
  obtain ⟨⟩ := u
  try dsimp only at hw_2 hB
  obtain ⟨hP1, hK1, hD1⟩ := hB
  rw [htC] at hP1
  have hK1 := va_K.moved hvm.symm hK1
  obtain ⟨hP, hD⟩ := va_join (wr := []) (w1 := [(zo9iiii a0 x y z u0)]) hP hD [0] [] rfl rfl (by decide) (by decide) hk1 hFc hP1 hD1
  have hK := (hK.sub (tys' := []) [] rfl).app hK1
  generalize H1 = H at hP hS ⊢
  have hP : va_P (dC, dI) vwCl [(zo9iiii a0 x y z u0)] H := hP
  have hD : va_D A [(zo9iiii a0 x y z u0)] := hD
  have hK : va_K (dC, dI) vwCl [] s := hK
  rw [hQ]
  have hP9 := hP.sub (ws' := [(zo9iiii a0 x y z u0)]) [0] rfl
  have hD9 := hD.sub (ws' := [(zo9iiii a0 x y z u0)]) [0] (by decide) rfl
  have hK9 := hK.sub (tys' := []) [] rfl
  exact W.vret hx hb hr (fun tQ htQ hWQ => ⟨⟨(), rfl, trivial, by rw [htQ]; exact hP9, va_K.moved hWQ.alike hK9, hD9⟩, hS.F htQ⟩) hS.2.2 dX7_init_9

theorem kc_goingsInit_0 : (.methodLink RX2 3 objectInit : Cond) ∈ wsX2_init := kc_of 221 rfl rfl rfl
theorem kc_goingsInit_1 : (.instanceMethod objectInit : Cond) ∈ wsX2_init := kc_of 99 rfl rfl rfl
theorem kc_goingsInit_2 : (.code objectInit ⟨#[0xb1]⟩ 1 none : Cond) ∈ wsX2_init := kc_of 100 rfl rfl rfl
theorem kc_goingsInit_3 : (.arrayClass .int : Cond) ∈ wsX2_init := kc_of 149 rfl rfl rfl
theorem kc_goingsInit_4 : ∀ w ∈ wsX20, w ∈ wsX2_init := fun w h => List.mem_cons_of_mem _ (gin_wsX20 w h)
theorem kc_goingsInit_5 : (.fieldLink RX2 9 "MistHeaps$Goings" "reach" "[I" : Cond) ∈ wsX2_init := kc_of 261 rfl rfl rfl
theorem kc_goingsInit_6 : (.fieldLink RX2 15 "MistHeaps$Goings" "onward" "[I" : Cond) ∈ wsX2_init := kc_of 262 rfl rfl rfl
theorem kc_goingsInit_7 : ∀ w ∈ wsX30, w ∈ wsX2_init := fun w h => List.mem_cons_of_mem _ (gin_wsX30 w h)
theorem kc_goingsInit_8 : (.classLink RX2 18 RX3 : Cond) ∈ wsX2_init := kc_of 222 rfl rfl rfl
theorem kc_goingsInit_9 : (.instantiable RX3 4 : Cond) ∈ wsX2_init := kc_of 223 rfl rfl rfl
theorem kc_goingsInit_10 : (.initialized RX3 : Cond) ∈ wsX2_init := kc_of 67 rfl rfl rfl
theorem kc_goingsInit_11 : (.methodLink RX2 20 yX3_init : Cond) ∈ wsX2_init := kc_of 224 rfl rfl rfl
theorem kc_goingsInit_12 : (.instanceMethod yX3_init : Cond) ∈ wsX2_init := kc_of 225 rfl rfl rfl
theorem kc_goingsInit_13 : (.fieldLink RX2 23 "MistHeaps$Goings" "spare" "LMistHeaps$Heap;" : Cond) ∈ wsX2_init := kc_of 264 rfl rfl rfl
set_option maxHeartbeats 4000000 in
set_option maxRecDepth 100000 in
theorem c_goingsInit (l : Launch) (dC : Nat → ClassId) (dI : Nat → Nat → Nat) (a0 : Nat) (sz : Nat) : Met l yX2_init wsX2_init ({ frames := 2, cells := 3, slots := 20, locals := 36 } : Room) (va_Pc [.ref a0] (fun U => U.heap.size = sz ∧ va_P (dC, dI) vwCl [(zo4nnin a0 0)] U.heap ∧ va_K (dC, dI) vwCl [] U ∧ va_D (fun _ => True) [(zo4nnin a0 0)])) (va_Qv (fun (u : Unit) => match u with | () => True) (fun (u : Unit) (t : State) => match u with | () => ∃ gR : Nat, ∃ gO : Nat, ∃ gS : Nat, ∃ cR : ClassId, ∃ cO : ClassId, va_P (dC, dI) vwCl [(zo4rrir a0 gR gO 0 gS), (zaI gR cR 8 (fun _ => 0)), (zaI gO cO 8 (fun _ => 0)), (zo5iiii gS 0 0 0 0)] t.heap ∧ va_K (dC, dI) vwCl [(cR, .int), (cO, .int)] t ∧ va_D (va_A [(zo4nnin a0 0)] sz) [(zo4rrir a0 gR gO 0 gS), (zaI gR cR 8 (fun _ => 0)), (zaI gO cO 8 (fun _ => 0)), (zo5iiii gS 0 0 0 0)]) (va_A [(zo4nnin a0 0)] sz)) 3 20 (va_A [(zo4nnin a0 0)] sz) := by
  refine met_ofQ (cc := cX2_init) (maxL := 1) (ret := none) (by decide) rfl ?_
  intro p e s m args below meth c s₁ Q B hml hv hQ
  obtain ⟨rfl, hsz, hP, hK, hD0⟩ := hv
  have hx := B.exec
  have hb := B.bytes
  have hr := B.returns
  have hts := atoms_spec (ws := wsX2_init) B.pre
  have hown : s.vm.findClass RX2 = some m.cls := findClass_of_methodNamed B.named
  have hlocks := B.notSynchronized
  have hin : meth.name = "<init>" := (name_of_methodNamed B.named B.method).1
  subst hsz
  have hD := hD0.self (sz := s.heap.size)
  generalize hAe : va_A [(zo4nnin a0 0)] s.heap.size = A at hD hQ ⊢
  have hA : ∀ q : Nat, s.heap.size ≤ q → A q := fun q h => by rw [← hAe]; exact Or.inr h
  have hS : va_S A s.heap s.heap [] := va_S.rf
  have hl := lv_entry [.ref a0] (n := 1) (Nat.le_of_ble_eq_true rfl)
  rw [lg_entry_eq]
  generalize (lg_sl [.ref a0] ++ List.replicate (1 - (lg_sl [.ref a0]).length) Slot.unset).toArray = ls at hl ⊢
  generalize hag : ([.ref a0] : List Value).toArray = args at hts hQ ⊢
  have hl : lv_has ls 1 [(0, .ref a0)] := hl
  obtain ⟨H, hH⟩ : ∃ H : Heap, H = s.heap := ⟨_, rfl⟩
  rw [← hH] at hP
  rw [← hH]
  have hS : va_S A s.heap H [] := by rw [hH]; exact hS
  obtain ⟨locs, hlo⟩ : ∃ L : List Loc, L = [] := ⟨_, rfl⟩
  rw [← hlo] at hS
  rw [← hlo]
  clear hH hlo
  refine lv_aload_n hx hb dX2_init_0 rfl (lv_at hl 0 rfl) ?_
  refine W.objInit hx hb hown (hts (.methodLink RX2 3 objectInit) kc_goingsInit_0) (hts (.instanceMethod objectInit) kc_goingsInit_1) (hts (.code objectInit ⟨#[0xb1]⟩ 1 none) kc_goingsInit_2) rfl (by rw [hml]; exact hl.1) rfl dX2_init_1 (Nat.le_of_ble_eq_true rfl) (Nat.le_of_ble_eq_true rfl) ?_
  refine W.eq (g2 := F0 m 4 ls []) rfl ?_
  refine lv_aload_n hx hb dX2_init_4 rfl (lv_at hl 0 rfl) ?_
  refine lv_bipush (v := 8) hx hb dX2_init_5 (by decide) ?_
  refine va_newa (atype := .int) (ty := .int) (N' := 8) (a0 := (8, .inl (fun _ => 0))) hx hb (hts (.arrayClass .int) kc_goingsInit_3) rfl hK hP hD hS hA (fun _ => rfl) (by decide) (by decide) (by decide) (Nat.le_of_ble_eq_true rfl) (Nat.le_of_ble_eq_true rfl) dX2_init_7 (fun q_1 ca_2 H hK hP hD hS => ?_)
  have hP : va_P (dC, dI) vwCl [(zo4nnin a0 0), (zaI q_1 ca_2 8 (fun _ => 0))] H := hP
  have hD : va_D A [(zo4nnin a0 0), (zaI q_1 ca_2 8 (fun _ => 0))] := hD
  have hK : va_K (dC, dI) vwCl [(ca_2, .int)] s := hK
  refine W.widen (k := 1) (n := 8) (by omega) (by omega) ?_
  refine va_putF (D := (dC, dI)) (ci := 4) (v := .ref q_1) (ty := .array .int) (C := RX2) (T := TX2) (N := 4) hx hb hts kc_goingsInit_4 tyX2 tyX2_ok nmX2 hown hK hP hD hS 0 rfl rfl 0 (by decide) (hts (.fieldLink RX2 9 "MistHeaps$Goings" "reach" "[I") kc_goingsInit_5) (fun _ h9 => h9) rfl hin rfl (by decide +kernel) rfl rfl (Nat.le_of_ble_eq_true rfl) dX2_init_9 (fun H locs hP hD hS => ?_)
  have hP : va_P (dC, dI) vwCl [(zo4rnin a0 q_1 0), (zaI q_1 ca_2 8 (fun _ => 0))] H := hP
  have hD : va_D A [(zo4rnin a0 q_1 0), (zaI q_1 ca_2 8 (fun _ => 0))] := hD
  refine lv_aload_n hx hb dX2_init_12 rfl (lv_at hl 0 rfl) ?_
  refine lv_bipush (v := 8) hx hb dX2_init_13 (by decide) ?_
  refine va_newa (atype := .int) (ty := .int) (N' := 8) (a0 := (8, .inl (fun _ => 0))) hx hb (hts (.arrayClass .int) kc_goingsInit_3) rfl hK hP hD hS hA (fun _ => rfl) (by decide) (by decide) (by decide) (Nat.le_of_ble_eq_true rfl) (Nat.le_of_ble_eq_true rfl) dX2_init_15 (fun q_3 ca_4 H hK hP hD hS => ?_)
  have hP : va_P (dC, dI) vwCl [(zo4rnin a0 q_1 0), (zaI q_1 ca_2 8 (fun _ => 0)), (zaI q_3 ca_4 8 (fun _ => 0))] H := hP
  have hD : va_D A [(zo4rnin a0 q_1 0), (zaI q_1 ca_2 8 (fun _ => 0)), (zaI q_3 ca_4 8 (fun _ => 0))] := hD
  have hK : va_K (dC, dI) vwCl [(ca_2, .int), (ca_4, .int)] s := hK
  refine W.widen (k := 2) (n := 16) (by omega) (by omega) ?_
  refine va_putF (D := (dC, dI)) (ci := 4) (v := .ref q_3) (ty := .array .int) (C := RX2) (T := TX2) (N := 4) hx hb hts kc_goingsInit_4 tyX2 tyX2_ok nmX2 hown hK hP hD hS 0 rfl rfl 1 (by decide) (hts (.fieldLink RX2 15 "MistHeaps$Goings" "onward" "[I") kc_goingsInit_6) (fun _ h9 => h9) rfl hin rfl (by decide +kernel) rfl rfl (Nat.le_of_ble_eq_true rfl) dX2_init_17 (fun H locs hP hD hS => ?_)
  have hP : va_P (dC, dI) vwCl [(zo4rrin a0 q_1 q_3 0), (zaI q_1 ca_2 8 (fun _ => 0)), (zaI q_3 ca_4 8 (fun _ => 0))] H := hP
  have hD : va_D A [(zo4rrin a0 q_1 q_3 0), (zaI q_1 ca_2 8 (fun _ => 0)), (zaI q_3 ca_4 8 (fun _ => 0))] := hD
  refine lv_aload_n hx hb dX2_init_20 rfl (lv_at hl 0 rfl) ?_
  refine va_new (ci := 5) (fs := [.int 0, .int 0, .int 0, .int 0]) (C := RX3) (T := TX3) (N := 4) hx hb hts kc_goingsInit_7 tyX3 tyX3_ok hown (hts (.classLink RX2 18 RX3) kc_goingsInit_8) (hts (.instantiable RX3 4) kc_goingsInit_9) (hts (.initialized RX3) kc_goingsInit_10) hK hP hD hS hA rfl (fun j hj => by rcases (show j = 0 ∨ j = 1 ∨ j = 2 ∨ j = 3 by omega) with rfl | rfl | rfl | rfl <;> rfl) (Nat.le_of_ble_eq_true rfl) (Nat.le_of_ble_eq_true rfl) dX2_init_21 (fun q_5 H hP hD hS => ?_)
  have hP : va_P (dC, dI) vwCl [(zo4rrin a0 q_1 q_3 0), (zaI q_1 ca_2 8 (fun _ => 0)), (zaI q_3 ca_4 8 (fun _ => 0)), (zo5iiii q_5 0 0 0 0)] H := hP
  have hD : va_D A [(zo4rrin a0 q_1 q_3 0), (zaI q_1 ca_2 8 (fun _ => 0)), (zaI q_3 ca_4 8 (fun _ => 0)), (zo5iiii q_5 0 0 0 0)] := hD
  refine W.widen (k := 3) (n := 20) (by omega) (by omega) ?_
  refine lv_dup hx hb dX2_init_24 rfl ?_
  refine lv_iconst (v := 0) hx hb dX2_init_25 (by decide) ?_
  refine lv_iconst (v := 0) hx hb dX2_init_26 (by decide) ?_
  refine lv_iconst (v := 0) hx hb dX2_init_27 (by decide) ?_
  refine lv_iconst (v := 0) hx hb dX2_init_28 (by decide) ?_
  have hPc := hP.sub (ws' := [(zo5iiii q_5 0 0 0 0)]) [3] rfl
  have hDc := hD.sub (ws' := [(zo5iiii q_5 0 0 0 0)]) [3] (by decide) rfl
  have hKc := hK.sub (tys' := []) [] rfl
  have hFc := va_free (wc := [(zo5iiii q_5 0 0 0 0)]) hD hS hA [3] rfl
  refine va_callv (va_runI (As := [.int 0, .int 0, .int 0, .int 0]) (rest := [.ref q_5, .ref a0]) ⟨hx, hb, hml, hown, hts⟩ (c_h3_X3 l dC dI q_5 0 0 0 0 H.size) (cwI 4 hts ggX2_init_X3_init rfl rfl rfl (hts (.initialized RX3) kc_goingsInit_10) (hts (.methodLink RX2 20 yX3_init) kc_goingsInit_11) (hts (.instanceMethod yX3_init) kc_goingsInit_12) rfl (by decide +kernel) ⟨Nat.le_of_ble_eq_true rfl, Nat.le_of_ble_eq_true rfl⟩) ⟨fun a U g mk q => by obtain ⟨q0, q1, qP, qK, qD⟩ := q; exact ⟨q0, mvz g mk a q1, mvP g mk a qP, mvK g mk a qK, qD⟩, fun U hU hW => ⟨rfl, by rw [hU], by rw [hU]; exact hPc, va_K.moved hW.alike hKc, hDc.weaken (fun _ _ _ _ => trivial)⟩⟩ rfl rfl hl.1 rfl (lv_room (Nat.le_of_ble_eq_true rfl)) dX2_init_29 ⟨Nat.le_of_ble_eq_true rfl, Nat.le_of_ble_eq_true rfl⟩) hS (fun q _ h => hFc q h) hFc (fun u tC H1 locs htC hvm hw_7 hB hz1 hk1 hS => ?_)
  obtain ⟨⟩ := u
  try dsimp only at hw_7 hB
  obtain ⟨hP1, hK1, hD1⟩ := hB
  rw [htC] at hP1
  have hK1 := va_K.moved hvm.symm hK1
  obtain ⟨hP, hD⟩ := va_join (wr := [(zo4rrin a0 q_1 q_3 0), (zaI q_1 ca_2 8 (fun _ => 0)), (zaI q_3 ca_4 8 (fun _ => 0))]) (w1 := [(zo5iiii q_5 0 0 0 0)]) hP hD [3] [0, 1, 2] rfl rfl (by decide) (by decide) hk1 hFc hP1 hD1
  have hK := (hK.sub (tys' := [(ca_2, .int), (ca_4, .int)]) [0, 1] rfl).app hK1
  generalize H1 = H at hP hS ⊢
  have hP : va_P (dC, dI) vwCl [(zo4rrin a0 q_1 q_3 0), (zaI q_1 ca_2 8 (fun _ => 0)), (zaI q_3 ca_4 8 (fun _ => 0)), (zo5iiii q_5 0 0 0 0)] H := hP
  have hD : va_D A [(zo4rrin a0 q_1 q_3 0), (zaI q_1 ca_2 8 (fun _ => 0)), (zaI q_3 ca_4 8 (fun _ => 0)), (zo5iiii q_5 0 0 0 0)] := hD
  have hK : va_K (dC, dI) vwCl [(ca_2, .int), (ca_4, .int)] s := hK
  refine va_putF (D := (dC, dI)) (ci := 4) (v := .ref q_5) (ty := .object "MistHeaps$Heap") (C := RX2) (T := TX2) (N := 4) hx hb hts kc_goingsInit_4 tyX2 tyX2_ok nmX2 hown hK hP hD hS 0 rfl rfl 3 (by decide) (hts (.fieldLink RX2 23 "MistHeaps$Goings" "spare" "LMistHeaps$Heap;") kc_goingsInit_13) (fun _ h9 => h9) rfl hin rfl (by decide +kernel) rfl rfl (Nat.le_of_ble_eq_true rfl) dX2_init_32 (fun H locs hP hD hS => ?_)
  have hP : va_P (dC, dI) vwCl [(zo4rrir a0 q_1 q_3 0 q_5), (zaI q_1 ca_2 8 (fun _ => 0)), (zaI q_3 ca_4 8 (fun _ => 0)), (zo5iiii q_5 0 0 0 0)] H := hP
  have hD : va_D A [(zo4rrir a0 q_1 q_3 0 q_5), (zaI q_1 ca_2 8 (fun _ => 0)), (zaI q_3 ca_4 8 (fun _ => 0)), (zo5iiii q_5 0 0 0 0)] := hD
  rw [hQ]
  have hP9 := hP.sub (ws' := [(zo4rrir a0 q_1 q_3 0 q_5), (zaI q_1 ca_2 8 (fun _ => 0)), (zaI q_3 ca_4 8 (fun _ => 0)), (zo5iiii q_5 0 0 0 0)]) [0, 1, 2, 3] rfl
  have hD9 := hD.sub (ws' := [(zo4rrir a0 q_1 q_3 0 q_5), (zaI q_1 ca_2 8 (fun _ => 0)), (zaI q_3 ca_4 8 (fun _ => 0)), (zo5iiii q_5 0 0 0 0)]) [0, 1, 2, 3] (by decide) rfl
  have hK9 := hK.sub (tys' := [(ca_2, .int), (ca_4, .int)]) [0, 1] rfl
  exact W.vret hx hb hr (fun tQ htQ hWQ => ⟨⟨(), rfl, trivial, q_1, q_3, q_5, ca_2, ca_4, by rw [htQ]; exact hP9, va_K.moved hWQ.alike hK9, hD9⟩, hS.F htQ⟩) hS.2.2 dX2_init_35

theorem kc_chancesInit_0 : (.methodLink RX0 3 objectInit : Cond) ∈ wsX0_init := kc_of 279 rfl rfl rfl
theorem kc_chancesInit_1 : (.instanceMethod objectInit : Cond) ∈ wsX0_init := kc_of 99 rfl rfl rfl
theorem kc_chancesInit_2 : (.code objectInit ⟨#[0xb1]⟩ 1 none : Cond) ∈ wsX0_init := kc_of 100 rfl rfl rfl
theorem kc_chancesInit_3 : (.arrayClass .int : Cond) ∈ wsX0_init := kc_of 149 rfl rfl rfl
theorem kc_chancesInit_4 : ∀ w ∈ wsX00, w ∈ wsX0_init := fun w h => List.mem_cons_of_mem _ (gin_wsX00 w h)
theorem kc_chancesInit_5 : (.fieldLink RX0 9 "MistHeaps$Chances" "drifts" "[I" : Cond) ∈ wsX0_init := kc_of 287 rfl rfl rfl
theorem kc_chancesInit_6 : (.arrayClass .long : Cond) ∈ wsX0_init := kc_of 301 rfl rfl rfl
theorem kc_chancesInit_7 : (.classLink RX0 15 "[[J" : Cond) ∈ wsX0_init := kc_of 280 rfl rfl rfl
theorem kc_chancesInit_8 : (.fieldLink RX0 17 "MistHeaps$Chances" "times" "[[J" : Cond) ∈ wsX0_init := kc_of 288 rfl rfl rfl
theorem kc_chancesInit_9 : (.classLink RX0 20 "[[I" : Cond) ∈ wsX0_init := kc_of 282 rfl rfl rfl
theorem kc_chancesInit_10 : (.fieldLink RX0 22 "MistHeaps$Chances" "hits" "[[I" : Cond) ∈ wsX0_init := kc_of 289 rfl rfl rfl
set_option maxHeartbeats 4000000 in
set_option maxRecDepth 100000 in
theorem c_chancesInit (l : Launch) (dC : Nat → ClassId) (dI : Nat → Nat → Nat) (bS : Nat) (a0 : Nat) (sz : Nat) : Met l yX0_init wsX0_init ({ frames := 1, cells := 14, slots := 443, locals := 12 } : Room) (va_Pc [.ref a0] (fun U => U.heap.size = sz ∧ va_P (dC, dI) vwCl [(zo2linnn a0 0 0)] U.heap ∧ va_K (dC, dI) vwCl [] U ∧ va_D (fun _ => True) [(zo2linnn a0 0 0)] ∧ Gc bS (va_A [(zo2linnn a0 0 0)] sz) U)) (va_Qv (fun (u : Unit) => match u with | () => True) (fun (u : Unit) (t : State) => match u with | () => ∃ dr : Nat, ∃ tO : Nat, ∃ hO : Nat, ∃ rt : Nat → Nat, ∃ rh : Nat → Nat, ∃ cD : ClassId, ∃ cTO : ClassId, ∃ cHO : ClassId, ∃ cT : ClassId, ∃ cH : ClassId, va_P (dC, dI) vwCl [(zo2lirrr a0 0 0 dr tO hO), (zaI dr cD 36 (fun _ => 0)), (zaR tO cTO 3 (fun i => if i < 3 then some (rt i) else none)), (zaL (rt 0) cT 36 (fun _ => 0)), (zaL (rt 1) cT 36 (fun _ => 0)), (zaL (rt 2) cT 36 (fun _ => 0)), (zaR hO cHO 8 (fun i => if i < 8 then some (rh i) else none)), (zaI (rh 0) cH 36 (fun _ => 0)), (zaI (rh 1) cH 36 (fun _ => 0)), (zaI (rh 2) cH 36 (fun _ => 0)), (zaI (rh 3) cH 36 (fun _ => 0)), (zaI (rh 4) cH 36 (fun _ => 0)), (zaI (rh 5) cH 36 (fun _ => 0)), (zaI (rh 6) cH 36 (fun _ => 0)), (zaI (rh 7) cH 36 (fun _ => 0))] t.heap ∧ va_K (dC, dI) vwCl [(cD, .int), (cTO, .array .long), (cT, .long), (cT, .long), (cT, .long), (cHO, .array .int), (cH, .int), (cH, .int), (cH, .int), (cH, .int), (cH, .int), (cH, .int), (cH, .int), (cH, .int)] t ∧ va_D (va_A [(zo2linnn a0 0 0)] sz) [(zo2lirrr a0 0 0 dr tO hO), (zaI dr cD 36 (fun _ => 0)), (zaR tO cTO 3 (fun i => if i < 3 then some (rt i) else none)), (zaL (rt 0) cT 36 (fun _ => 0)), (zaL (rt 1) cT 36 (fun _ => 0)), (zaL (rt 2) cT 36 (fun _ => 0)), (zaR hO cHO 8 (fun i => if i < 8 then some (rh i) else none)), (zaI (rh 0) cH 36 (fun _ => 0)), (zaI (rh 1) cH 36 (fun _ => 0)), (zaI (rh 2) cH 36 (fun _ => 0)), (zaI (rh 3) cH 36 (fun _ => 0)), (zaI (rh 4) cH 36 (fun _ => 0)), (zaI (rh 5) cH 36 (fun _ => 0)), (zaI (rh 6) cH 36 (fun _ => 0)), (zaI (rh 7) cH 36 (fun _ => 0))]) (va_A [(zo2linnn a0 0 0)] sz)) 14 443 (va_A [(zo2linnn a0 0 0)] sz) := by
  refine met_ofQ (cc := cX0_init) (maxL := 1) (ret := none) (by decide) rfl ?_
  intro p e s m args below meth c s₁ Q B hml hv hQ
  obtain ⟨rfl, hsz, hP, hK, hD0, hC⟩ := hv
  have hx := B.exec
  have hb := B.bytes
  have hr := B.returns
  have hts := atoms_spec (ws := wsX0_init) B.pre
  have hown : s.vm.findClass RX0 = some m.cls := findClass_of_methodNamed B.named
  have hlocks := B.notSynchronized
  have hin : meth.name = "<init>" := (name_of_methodNamed B.named B.method).1
  subst hsz
  have hD := hD0.self (sz := s.heap.size)
  generalize hAe : va_A [(zo2linnn a0 0 0)] s.heap.size = A at hD hQ hC ⊢
  have hA : ∀ q : Nat, s.heap.size ≤ q → A q := fun q h => by rw [← hAe]; exact Or.inr h
  have hS : va_S A s.heap s.heap [] := va_S.rf
  have hl := lv_entry [.ref a0] (n := 1) (Nat.le_of_ble_eq_true rfl)
  rw [lg_entry_eq]
  generalize (lg_sl [.ref a0] ++ List.replicate (1 - (lg_sl [.ref a0]).length) Slot.unset).toArray = ls at hl ⊢
  generalize hag : ([.ref a0] : List Value).toArray = args at hts hQ ⊢
  have hl : lv_has ls 1 [(0, .ref a0)] := hl
  obtain ⟨H, hH⟩ : ∃ H : Heap, H = s.heap := ⟨_, rfl⟩
  rw [← hH] at hP
  rw [← hH]
  have hS : va_S A s.heap H [] := by rw [hH]; exact hS
  obtain ⟨locs, hlo⟩ : ∃ L : List Loc, L = [] := ⟨_, rfl⟩
  rw [← hlo] at hS
  rw [← hlo]
  clear hH hlo
  refine lv_aload_n hx hb dX0_init_0 rfl (lv_at hl 0 rfl) ?_
  refine W.objInit hx hb hown (hts (.methodLink RX0 3 objectInit) kc_chancesInit_0) (hts (.instanceMethod objectInit) kc_chancesInit_1) (hts (.code objectInit ⟨#[0xb1]⟩ 1 none) kc_chancesInit_2) rfl (by rw [hml]; exact hl.1) rfl dX0_init_1 (Nat.le_of_ble_eq_true rfl) (Nat.le_of_ble_eq_true rfl) ?_
  refine W.eq (g2 := F0 m 4 ls []) rfl ?_
  refine lv_aload_n hx hb dX0_init_4 rfl (lv_at hl 0 rfl) ?_
  refine lv_bipush (v := 36) hx hb dX0_init_5 (by decide) ?_
  refine va_newa (atype := .int) (ty := .int) (N' := 36) (a0 := (36, .inl (fun _ => 0))) hx hb (hts (.arrayClass .int) kc_chancesInit_3) rfl hK hP hD hS hA (fun _ => rfl) (by decide) (by decide) (by decide) (Nat.le_of_ble_eq_true rfl) (Nat.le_of_ble_eq_true rfl) dX0_init_7 (fun q_1 ca_2 H hK hP hD hS => ?_)
  have hP : va_P (dC, dI) vwCl [(zo2linnn a0 0 0), (zaI q_1 ca_2 36 (fun _ => 0))] H := hP
  have hD : va_D A [(zo2linnn a0 0 0), (zaI q_1 ca_2 36 (fun _ => 0))] := hD
  have hK : va_K (dC, dI) vwCl [(ca_2, .int)] s := hK
  refine W.widen (k := 1) (n := 36) (by omega) (by omega) ?_
  refine va_putF (D := (dC, dI)) (ci := 2) (v := .ref q_1) (ty := .array .int) (C := RX0) (T := TX0) (N := 5) hx hb hts kc_chancesInit_4 tyX0 tyX0_ok nmX0 hown hK hP hD hS 0 rfl rfl 2 (by decide) (hts (.fieldLink RX0 9 "MistHeaps$Chances" "drifts" "[I") kc_chancesInit_5) (fun _ h9 => h9) rfl hin rfl (by decide +kernel) rfl rfl (Nat.le_of_ble_eq_true rfl) dX0_init_9 (fun H locs hP hD hS => ?_)
  have hP : va_P (dC, dI) vwCl [(zo2lirnn a0 0 0 q_1), (zaI q_1 ca_2 36 (fun _ => 0))] H := hP
  have hD : va_D A [(zo2lirnn a0 0 0 q_1), (zaI q_1 ca_2 36 (fun _ => 0))] := hD
  refine lv_aload_n hx hb dX0_init_12 rfl (lv_at hl 0 rfl) ?_
  refine lv_iconst (v := 3) hx hb dX0_init_13 (by decide) ?_
  refine lv_bipush (v := 36) hx hb dX0_init_14 (by decide) ?_
  obtain ⟨cy_6, hcy_6, gcy_6⟩ := arr_known (hts (.arrayClass .long) kc_chancesInit_6)
  refine va_mna (X := [(zo2lirnn a0 0 0 q_1), (zaI q_1 ca_2 36 (fun _ => 0))]) (L := []) (f := fun _ => .inl (cy_6, (36, .inr (.inl (fun _ => 0))))) (ty := .long) (cy := cy_6) (z := (36, .inr (.inl (fun _ => 0)))) (N' := 3) (K' := 36) hx hb hown (by rw [show "[" ++ (FieldType.array .long).toString = "[[J" from by decide]; exact (hts (.classLink RX0 15 "[[J") kc_chancesInit_7)) hC.2.1 (hts (.arrayClass .long) kc_chancesInit_6) hcy_6 hK hP hD hS hA (by decide) (by decide) (by decide) (by decide) (by decide) (by decide) (by decide) rfl rfl (Nat.le_of_ble_eq_true rfl) (Nat.le_of_ble_eq_true rfl) (fun cq => arrV_new cq 36 (defaultValue .long)) dX0_init_16 (fun q_3 r_4 ca_5 H _ _ hK hP hD hS => ?_)
  rw [mna_rows] at hP hD
  have hP : va_P (dC, dI) vwCl [(zo2lirnn a0 0 0 q_1), (zaI q_1 ca_2 36 (fun _ => 0)), (zaR q_3 ca_5 3 (fun i => if i < 3 then some (r_4 i) else none)), (zaL (r_4 0) cy_6 36 (fun _ => 0)), (zaL (r_4 1) cy_6 36 (fun _ => 0)), (zaL (r_4 2) cy_6 36 (fun _ => 0))] H := hP
  have hD : va_D A [(zo2lirnn a0 0 0 q_1), (zaI q_1 ca_2 36 (fun _ => 0)), (zaR q_3 ca_5 3 (fun i => if i < 3 then some (r_4 i) else none)), (zaL (r_4 0) cy_6 36 (fun _ => 0)), (zaL (r_4 1) cy_6 36 (fun _ => 0)), (zaL (r_4 2) cy_6 36 (fun _ => 0))] := hD
  have hK : va_K (dC, dI) vwCl [(ca_2, .int), (ca_5, .array .long), (cy_6, .long), (cy_6, .long), (cy_6, .long)] s := hK.app (K_rep hK gcy_6 hcy_6 3)
  refine W.widen (k := 5) (n := 147) (by omega) (by omega) ?_
  refine va_putF (D := (dC, dI)) (ci := 2) (v := .ref q_3) (ty := .array (.array .long)) (C := RX0) (T := TX0) (N := 5) hx hb hts kc_chancesInit_4 tyX0 tyX0_ok nmX0 hown hK hP hD hS 0 rfl rfl 3 (by decide) (hts (.fieldLink RX0 17 "MistHeaps$Chances" "times" "[[J") kc_chancesInit_8) (fun _ h9 => h9) rfl hin rfl (by decide +kernel) rfl rfl (Nat.le_of_ble_eq_true rfl) dX0_init_20 (fun H locs hP hD hS => ?_)
  have hP : va_P (dC, dI) vwCl [(zo2lirrn a0 0 0 q_1 q_3), (zaI q_1 ca_2 36 (fun _ => 0)), (zaR q_3 ca_5 3 (fun i => if i < 3 then some (r_4 i) else none)), (zaL (r_4 0) cy_6 36 (fun _ => 0)), (zaL (r_4 1) cy_6 36 (fun _ => 0)), (zaL (r_4 2) cy_6 36 (fun _ => 0))] H := hP
  have hD : va_D A [(zo2lirrn a0 0 0 q_1 q_3), (zaI q_1 ca_2 36 (fun _ => 0)), (zaR q_3 ca_5 3 (fun i => if i < 3 then some (r_4 i) else none)), (zaL (r_4 0) cy_6 36 (fun _ => 0)), (zaL (r_4 1) cy_6 36 (fun _ => 0)), (zaL (r_4 2) cy_6 36 (fun _ => 0))] := hD
  refine lv_aload_n hx hb dX0_init_23 rfl (lv_at hl 0 rfl) ?_
  refine lv_bipush (v := 8) hx hb dX0_init_24 (by decide) ?_
  refine lv_bipush (v := 36) hx hb dX0_init_26 (by decide) ?_
  obtain ⟨cy_10, hcy_10, gcy_10⟩ := arr_known (hts (.arrayClass .int) kc_chancesInit_3)
  refine va_mna (X := [(zo2lirrn a0 0 0 q_1 q_3), (zaI q_1 ca_2 36 (fun _ => 0)), (zaR q_3 ca_5 3 (fun i => if i < 3 then some (r_4 i) else none)), (zaL (r_4 0) cy_6 36 (fun _ => 0)), (zaL (r_4 1) cy_6 36 (fun _ => 0)), (zaL (r_4 2) cy_6 36 (fun _ => 0))]) (L := []) (f := fun _ => .inl (cy_10, (36, .inl (fun _ => 0)))) (ty := .int) (cy := cy_10) (z := (36, .inl (fun _ => 0))) (N' := 8) (K' := 36) hx hb hown (by rw [show "[" ++ (FieldType.array .int).toString = "[[I" from by decide]; exact (hts (.classLink RX0 20 "[[I") kc_chancesInit_9)) hC.2.2.1 (hts (.arrayClass .int) kc_chancesInit_3) hcy_10 hK hP hD hS hA (by decide) (by decide) (by decide) (by decide) (by decide) (by decide) (by decide) rfl rfl (Nat.le_of_ble_eq_true rfl) (Nat.le_of_ble_eq_true rfl) (fun cq => arrV_new cq 36 (defaultValue .int)) dX0_init_28 (fun q_7 r_8 ca_9 H _ _ hK hP hD hS => ?_)
  rw [mna_rows] at hP hD
  have hP : va_P (dC, dI) vwCl [(zo2lirrn a0 0 0 q_1 q_3), (zaI q_1 ca_2 36 (fun _ => 0)), (zaR q_3 ca_5 3 (fun i => if i < 3 then some (r_4 i) else none)), (zaL (r_4 0) cy_6 36 (fun _ => 0)), (zaL (r_4 1) cy_6 36 (fun _ => 0)), (zaL (r_4 2) cy_6 36 (fun _ => 0)), (zaR q_7 ca_9 8 (fun i => if i < 8 then some (r_8 i) else none)), (zaI (r_8 0) cy_10 36 (fun _ => 0)), (zaI (r_8 1) cy_10 36 (fun _ => 0)), (zaI (r_8 2) cy_10 36 (fun _ => 0)), (zaI (r_8 3) cy_10 36 (fun _ => 0)), (zaI (r_8 4) cy_10 36 (fun _ => 0)), (zaI (r_8 5) cy_10 36 (fun _ => 0)), (zaI (r_8 6) cy_10 36 (fun _ => 0)), (zaI (r_8 7) cy_10 36 (fun _ => 0))] H := hP
  have hD : va_D A [(zo2lirrn a0 0 0 q_1 q_3), (zaI q_1 ca_2 36 (fun _ => 0)), (zaR q_3 ca_5 3 (fun i => if i < 3 then some (r_4 i) else none)), (zaL (r_4 0) cy_6 36 (fun _ => 0)), (zaL (r_4 1) cy_6 36 (fun _ => 0)), (zaL (r_4 2) cy_6 36 (fun _ => 0)), (zaR q_7 ca_9 8 (fun i => if i < 8 then some (r_8 i) else none)), (zaI (r_8 0) cy_10 36 (fun _ => 0)), (zaI (r_8 1) cy_10 36 (fun _ => 0)), (zaI (r_8 2) cy_10 36 (fun _ => 0)), (zaI (r_8 3) cy_10 36 (fun _ => 0)), (zaI (r_8 4) cy_10 36 (fun _ => 0)), (zaI (r_8 5) cy_10 36 (fun _ => 0)), (zaI (r_8 6) cy_10 36 (fun _ => 0)), (zaI (r_8 7) cy_10 36 (fun _ => 0))] := hD
  have hK : va_K (dC, dI) vwCl [(ca_2, .int), (ca_5, .array .long), (cy_6, .long), (cy_6, .long), (cy_6, .long), (ca_9, .array .int), (cy_10, .int), (cy_10, .int), (cy_10, .int), (cy_10, .int), (cy_10, .int), (cy_10, .int), (cy_10, .int), (cy_10, .int)] s := hK.app (K_rep hK gcy_10 hcy_10 8)
  refine W.widen (k := 14) (n := 443) (by omega) (by omega) ?_
  refine va_putF (D := (dC, dI)) (ci := 2) (v := .ref q_7) (ty := .array (.array .int)) (C := RX0) (T := TX0) (N := 5) hx hb hts kc_chancesInit_4 tyX0 tyX0_ok nmX0 hown hK hP hD hS 0 rfl rfl 4 (by decide) (hts (.fieldLink RX0 22 "MistHeaps$Chances" "hits" "[[I") kc_chancesInit_10) (fun _ h9 => h9) rfl hin rfl (by decide +kernel) rfl rfl (Nat.le_of_ble_eq_true rfl) dX0_init_32 (fun H locs hP hD hS => ?_)
  have hP : va_P (dC, dI) vwCl [(zo2lirrr a0 0 0 q_1 q_3 q_7), (zaI q_1 ca_2 36 (fun _ => 0)), (zaR q_3 ca_5 3 (fun i => if i < 3 then some (r_4 i) else none)), (zaL (r_4 0) cy_6 36 (fun _ => 0)), (zaL (r_4 1) cy_6 36 (fun _ => 0)), (zaL (r_4 2) cy_6 36 (fun _ => 0)), (zaR q_7 ca_9 8 (fun i => if i < 8 then some (r_8 i) else none)), (zaI (r_8 0) cy_10 36 (fun _ => 0)), (zaI (r_8 1) cy_10 36 (fun _ => 0)), (zaI (r_8 2) cy_10 36 (fun _ => 0)), (zaI (r_8 3) cy_10 36 (fun _ => 0)), (zaI (r_8 4) cy_10 36 (fun _ => 0)), (zaI (r_8 5) cy_10 36 (fun _ => 0)), (zaI (r_8 6) cy_10 36 (fun _ => 0)), (zaI (r_8 7) cy_10 36 (fun _ => 0))] H := hP
  have hD : va_D A [(zo2lirrr a0 0 0 q_1 q_3 q_7), (zaI q_1 ca_2 36 (fun _ => 0)), (zaR q_3 ca_5 3 (fun i => if i < 3 then some (r_4 i) else none)), (zaL (r_4 0) cy_6 36 (fun _ => 0)), (zaL (r_4 1) cy_6 36 (fun _ => 0)), (zaL (r_4 2) cy_6 36 (fun _ => 0)), (zaR q_7 ca_9 8 (fun i => if i < 8 then some (r_8 i) else none)), (zaI (r_8 0) cy_10 36 (fun _ => 0)), (zaI (r_8 1) cy_10 36 (fun _ => 0)), (zaI (r_8 2) cy_10 36 (fun _ => 0)), (zaI (r_8 3) cy_10 36 (fun _ => 0)), (zaI (r_8 4) cy_10 36 (fun _ => 0)), (zaI (r_8 5) cy_10 36 (fun _ => 0)), (zaI (r_8 6) cy_10 36 (fun _ => 0)), (zaI (r_8 7) cy_10 36 (fun _ => 0))] := hD
  rw [hQ]
  have hP9 := hP.sub (ws' := [(zo2lirrr a0 0 0 q_1 q_3 q_7), (zaI q_1 ca_2 36 (fun _ => 0)), (zaR q_3 ca_5 3 (fun i => if i < 3 then some (r_4 i) else none)), (zaL (r_4 0) cy_6 36 (fun _ => 0)), (zaL (r_4 1) cy_6 36 (fun _ => 0)), (zaL (r_4 2) cy_6 36 (fun _ => 0)), (zaR q_7 ca_9 8 (fun i => if i < 8 then some (r_8 i) else none)), (zaI (r_8 0) cy_10 36 (fun _ => 0)), (zaI (r_8 1) cy_10 36 (fun _ => 0)), (zaI (r_8 2) cy_10 36 (fun _ => 0)), (zaI (r_8 3) cy_10 36 (fun _ => 0)), (zaI (r_8 4) cy_10 36 (fun _ => 0)), (zaI (r_8 5) cy_10 36 (fun _ => 0)), (zaI (r_8 6) cy_10 36 (fun _ => 0)), (zaI (r_8 7) cy_10 36 (fun _ => 0))]) [0, 1, 2, 3, 4, 5, 6, 7, 8, 9, 10, 11, 12, 13, 14] rfl
  have hD9 := hD.sub (ws' := [(zo2lirrr a0 0 0 q_1 q_3 q_7), (zaI q_1 ca_2 36 (fun _ => 0)), (zaR q_3 ca_5 3 (fun i => if i < 3 then some (r_4 i) else none)), (zaL (r_4 0) cy_6 36 (fun _ => 0)), (zaL (r_4 1) cy_6 36 (fun _ => 0)), (zaL (r_4 2) cy_6 36 (fun _ => 0)), (zaR q_7 ca_9 8 (fun i => if i < 8 then some (r_8 i) else none)), (zaI (r_8 0) cy_10 36 (fun _ => 0)), (zaI (r_8 1) cy_10 36 (fun _ => 0)), (zaI (r_8 2) cy_10 36 (fun _ => 0)), (zaI (r_8 3) cy_10 36 (fun _ => 0)), (zaI (r_8 4) cy_10 36 (fun _ => 0)), (zaI (r_8 5) cy_10 36 (fun _ => 0)), (zaI (r_8 6) cy_10 36 (fun _ => 0)), (zaI (r_8 7) cy_10 36 (fun _ => 0))]) [0, 1, 2, 3, 4, 5, 6, 7, 8, 9, 10, 11, 12, 13, 14] (by decide) rfl
  have hK9 := hK.sub (tys' := [(ca_2, .int), (ca_5, .array .long), (cy_6, .long), (cy_6, .long), (cy_6, .long), (ca_9, .array .int), (cy_10, .int), (cy_10, .int), (cy_10, .int), (cy_10, .int), (cy_10, .int), (cy_10, .int), (cy_10, .int), (cy_10, .int)]) [0, 1, 2, 3, 4, 5, 6, 7, 8, 9, 10, 11, 12, 13] rfl
  exact W.vret hx hb hr (fun tQ htQ hWQ => ⟨⟨(), rfl, trivial, q_1, q_3, q_7, r_4, r_8, ca_2, ca_5, ca_9, cy_6, cy_10, by rw [htQ]; exact hP9, va_K.moved hWQ.alike hK9, hD9⟩, hS.F htQ⟩) hS.2.2 dX0_init_35

theorem kc_acInit_0 : (.methodLink RJxa1e45 1 objectInit : Cond) ∈ wsJxa1e45_init_da8c8 := kc_of 313 rfl rfl rfl
theorem kc_acInit_1 : (.instanceMethod objectInit : Cond) ∈ wsJxa1e45_init_da8c8 := kc_of 99 rfl rfl rfl
theorem kc_acInit_2 : (.code objectInit ⟨#[0xb1]⟩ 1 none : Cond) ∈ wsJxa1e45_init_da8c8 := kc_of 100 rfl rfl rfl
set_option maxHeartbeats 4000000 in
set_option maxRecDepth 100000 in
theorem c_acInit (l : Launch) (dC : Nat → ClassId) (dI : Nat → Nat → Nat) (a0 : Nat) (sz : Nat) : Met l yJxa1e45_init_da8c8 wsJxa1e45_init_da8c8 ({ frames := 1, cells := 0, slots := 0, locals := 12 } : Room) (va_Pc [.ref a0] (fun U => U.heap.size = sz ∧ va_P (dC, dI) vwCl [(zo1ini a0 0 0)] U.heap ∧ va_K (dC, dI) vwCl [] U ∧ va_D (fun _ => True) [(zo1ini a0 0 0)])) (va_Qv (fun (u : Unit) => match u with | () => True) (fun (u : Unit) (t : State) => match u with | () => va_P (dC, dI) vwCl [(zo1ini a0 0 0)] t.heap ∧ va_K (dC, dI) vwCl [] t ∧ va_D (va_A [(zo1ini a0 0 0)] sz) [(zo1ini a0 0 0)]) (va_A [(zo1ini a0 0 0)] sz)) 0 0 (va_A [(zo1ini a0 0 0)] sz) := by
  refine met_ofQ (cc := cJxa1e45_init_da8c8) (maxL := 1) (ret := none) (by decide) rfl ?_
  intro p e s m args below meth c s₁ Q B hml hv hQ
  obtain ⟨rfl, hsz, hP, hK, hD0⟩ := hv
  have hx := B.exec
  have hb := B.bytes
  have hr := B.returns
  have hts := atoms_spec (ws := wsJxa1e45_init_da8c8) B.pre
  have hown : s.vm.findClass RJxa1e45 = some m.cls := findClass_of_methodNamed B.named
  have hlocks := B.notSynchronized
  have hin : meth.name = "<init>" := (name_of_methodNamed B.named B.method).1
  subst hsz
  have hD := hD0.self (sz := s.heap.size)
  generalize hAe : va_A [(zo1ini a0 0 0)] s.heap.size = A at hD hQ ⊢
  have hA : ∀ q : Nat, s.heap.size ≤ q → A q := fun q h => by rw [← hAe]; exact Or.inr h
  have hS : va_S A s.heap s.heap [] := va_S.rf
  have hl := lv_entry [.ref a0] (n := 1) (Nat.le_of_ble_eq_true rfl)
  rw [lg_entry_eq]
  generalize (lg_sl [.ref a0] ++ List.replicate (1 - (lg_sl [.ref a0]).length) Slot.unset).toArray = ls at hl ⊢
  generalize hag : ([.ref a0] : List Value).toArray = args at hts hQ ⊢
  have hl : lv_has ls 1 [(0, .ref a0)] := hl
  obtain ⟨H, hH⟩ : ∃ H : Heap, H = s.heap := ⟨_, rfl⟩
  rw [← hH] at hP
  rw [← hH]
  have hS : va_S A s.heap H [] := by rw [hH]; exact hS
  obtain ⟨locs, hlo⟩ : ∃ L : List Loc, L = [] := ⟨_, rfl⟩
  rw [← hlo] at hS
  rw [← hlo]
  clear hH hlo
  refine lv_aload_n hx hb dJxa1e45_init_da8c8_0 rfl (lv_at hl 0 rfl) ?_
  refine W.objInit hx hb hown (hts (.methodLink RJxa1e45 1 objectInit) kc_acInit_0) (hts (.instanceMethod objectInit) kc_acInit_1) (hts (.code objectInit ⟨#[0xb1]⟩ 1 none) kc_acInit_2) rfl (by rw [hml]; exact hl.1) rfl dJxa1e45_init_da8c8_1 (Nat.le_of_ble_eq_true rfl) (Nat.le_of_ble_eq_true rfl) ?_
  refine W.eq (g2 := F0 m 4 ls []) rfl ?_
  rw [hQ]
  have hP9 := hP.sub (ws' := [(zo1ini a0 0 0)]) [0] rfl
  have hD9 := hD.sub (ws' := [(zo1ini a0 0 0)]) [0] (by decide) rfl
  have hK9 := hK.sub (tys' := []) [] rfl
  exact W.vret hx hb hr (fun tQ htQ hWQ => ⟨⟨(), rfl, trivial, by rw [htQ]; exact hP9, va_K.moved hWQ.alike hK9, hD9⟩, hS.F htQ⟩) hS.2.2 dJxa1e45_init_da8c8_4

theorem kc_alInit_0 : (.initialized RJxa1e45 : Cond) ∈ wsJxc12de_init_da8c8 := kc_of 69 rfl rfl rfl
theorem kc_alInit_1 : (.methodLink RJxc12de 1 yJxa1e45_init_da8c8 : Cond) ∈ wsJxc12de_init_da8c8 := kc_of 310 rfl rfl rfl
theorem kc_alInit_2 : (.instanceMethod yJxa1e45_init_da8c8 : Cond) ∈ wsJxc12de_init_da8c8 := kc_of 311 rfl rfl rfl
theorem kc_alInit_3 : ∀ w ∈ wsJx4a65c0, w ∈ wsJxc12de_init_da8c8 := fun w h => List.mem_cons_of_mem _ (gin_wsJx4a65c0 w h)
theorem kc_alInit_4 : (.fieldLink RJxc12de 7 "java/util/AbstractList" "modCount" "I" : Cond) ∈ wsJxc12de_init_da8c8 := kc_of 318 rfl rfl rfl
set_option maxHeartbeats 4000000 in
set_option maxRecDepth 100000 in
theorem c_alInit (l : Launch) (dC : Nat → ClassId) (dI : Nat → Nat → Nat) (a0 : Nat) (sz : Nat) : Met l yJxc12de_init_da8c8 wsJxc12de_init_da8c8 ({ frames := 2, cells := 0, slots := 0, locals := 32 } : Room) (va_Pc [.ref a0] (fun U => U.heap.size = sz ∧ va_P (dC, dI) vwCl [(zo1ini a0 0 0)] U.heap ∧ va_K (dC, dI) vwCl [] U ∧ va_D (fun _ => True) [(zo1ini a0 0 0)])) (va_Qv (fun (u : Unit) => match u with | () => True) (fun (u : Unit) (t : State) => match u with | () => va_P (dC, dI) vwCl [(zo1ini a0 0 0)] t.heap ∧ va_K (dC, dI) vwCl [] t ∧ va_D (va_A [(zo1ini a0 0 0)] sz) [(zo1ini a0 0 0)]) (va_A [(zo1ini a0 0 0)] sz)) 0 0 (va_A [(zo1ini a0 0 0)] sz) := by
  refine met_ofQ (cc := cJxc12de_init_da8c8) (maxL := 1) (ret := none) (by decide) rfl ?_
  intro p e s m args below meth c s₁ Q B hml hv hQ
  obtain ⟨rfl, hsz, hP, hK, hD0⟩ := hv
  have hx := B.exec
  have hb := B.bytes
  have hr := B.returns
  have hts := atoms_spec (ws := wsJxc12de_init_da8c8) B.pre
  have hown : s.vm.findClass RJxc12de = some m.cls := findClass_of_methodNamed B.named
  have hlocks := B.notSynchronized
  have hin : meth.name = "<init>" := (name_of_methodNamed B.named B.method).1
  subst hsz
  have hD := hD0.self (sz := s.heap.size)
  generalize hAe : va_A [(zo1ini a0 0 0)] s.heap.size = A at hD hQ ⊢
  have hA : ∀ q : Nat, s.heap.size ≤ q → A q := fun q h => by rw [← hAe]; exact Or.inr h
  have hS : va_S A s.heap s.heap [] := va_S.rf
  have hl := lv_entry [.ref a0] (n := 1) (Nat.le_of_ble_eq_true rfl)
  rw [lg_entry_eq]
  generalize (lg_sl [.ref a0] ++ List.replicate (1 - (lg_sl [.ref a0]).length) Slot.unset).toArray = ls at hl ⊢
  generalize hag : ([.ref a0] : List Value).toArray = args at hts hQ ⊢
  have hl : lv_has ls 1 [(0, .ref a0)] := hl
  obtain ⟨H, hH⟩ : ∃ H : Heap, H = s.heap := ⟨_, rfl⟩
  rw [← hH] at hP
  rw [← hH]
  have hS : va_S A s.heap H [] := by rw [hH]; exact hS
  obtain ⟨locs, hlo⟩ : ∃ L : List Loc, L = [] := ⟨_, rfl⟩
  rw [← hlo] at hS
  rw [← hlo]
  clear hH hlo
  refine lv_aload_n hx hb dJxc12de_init_da8c8_0 rfl (lv_at hl 0 rfl) ?_
  have hPc := hP.sub (ws' := [(zo1ini a0 0 0)]) [0] rfl
  have hDc := hD.sub (ws' := [(zo1ini a0 0 0)]) [0] (by decide) rfl
  have hKc := hK.sub (tys' := []) [] rfl
  have hFc := va_free (wc := [(zo1ini a0 0 0)]) hD hS hA [0] rfl
  refine va_callv (va_runI (As := []) (rest := []) ⟨hx, hb, hml, hown, hts⟩ (c_acInit l dC dI a0 H.size) (cwI 0 hts ggJxc12de_init_da8c8_Jxa1e45_init_da8c8 rfl rfl rfl (hts (.initialized RJxa1e45) kc_alInit_0) (hts (.methodLink RJxc12de 1 yJxa1e45_init_da8c8) kc_alInit_1) (hts (.instanceMethod yJxa1e45_init_da8c8) kc_alInit_2) rfl (by decide +kernel) ⟨Nat.le_of_ble_eq_true rfl, Nat.le_of_ble_eq_true rfl⟩) ⟨fun a U g mk q => by obtain ⟨q0, q1, qP, qK, qD⟩ := q; exact ⟨q0, mvz g mk a q1, mvP g mk a qP, mvK g mk a qK, qD⟩, fun U hU hW => ⟨rfl, by rw [hU], by rw [hU]; exact hPc, va_K.moved hW.alike hKc, hDc.weaken (fun _ _ _ _ => trivial)⟩⟩ rfl rfl hl.1 rfl (lv_room (Nat.le_of_ble_eq_true rfl)) dJxc12de_init_da8c8_1 ⟨Nat.le_of_ble_eq_true rfl, Nat.le_of_ble_eq_true rfl⟩) hS (fun q _ h => hFc q h) hFc (fun u tC H1 locs htC hvm hw_2 hB hz1 hk1 hS => ?_)
  obtain ⟨⟩ := u
  try dsimp only at hw_2 hB
  obtain ⟨hP1, hK1, hD1⟩ := hB
  rw [htC] at hP1
  have hK1 := va_K.moved hvm.symm hK1
  obtain ⟨hP, hD⟩ := va_join (wr := []) (w1 := [(zo1ini a0 0 0)]) hP hD [0] [] rfl rfl (by decide) (by decide) hk1 hFc hP1 hD1
  have hK := (hK.sub (tys' := []) [] rfl).app hK1
  generalize H1 = H at hP hS ⊢
  have hP : va_P (dC, dI) vwCl [(zo1ini a0 0 0)] H := hP
  have hD : va_D A [(zo1ini a0 0 0)] := hD
  have hK : va_K (dC, dI) vwCl [] s := hK
  refine lv_aload_n hx hb dJxc12de_init_da8c8_4 rfl (lv_at hl 0 rfl) ?_
  refine lv_iconst (v := 0) hx hb dJxc12de_init_da8c8_5 (by decide) ?_
  refine va_put (D := (dC, dI)) (ci := 1) (v := .int 0) (ty := .int) (C := RJx4a65c) (T := TJx4a65c) (N := 3) hx hb hts kc_alInit_3 tyJx4a65c tyJx4a65c_ok nmJx4a65c hown hK hP hD hS 0 rfl rfl 0 (by decide) (hts (.fieldLink RJxc12de 7 "java/util/AbstractList" "modCount" "I") kc_alInit_4) (fun _ h9 => h9) rfl (by decide +kernel) rfl rfl (Nat.le_of_ble_eq_true rfl) dJxc12de_init_da8c8_6 (fun H locs hP hD hS => ?_)
  have hP : va_P (dC, dI) vwCl [(zo1ini a0 0 0)] H := hP
  have hD : va_D A [(zo1ini a0 0 0)] := hD
  rw [hQ]
  have hP9 := hP.sub (ws' := [(zo1ini a0 0 0)]) [0] rfl
  have hD9 := hD.sub (ws' := [(zo1ini a0 0 0)]) [0] (by decide) rfl
  have hK9 := hK.sub (tys' := []) [] rfl
  exact W.vret hx hb hr (fun tQ htQ hWQ => ⟨⟨(), rfl, trivial, by rw [htQ]; exact hP9, va_K.moved hWQ.alike hK9, hD9⟩, hS.F htQ⟩) hS.2.2 dJxc12de_init_da8c8_9

theorem kc_listInit_0 : (.initialized RJxc12de : Cond) ∈ wsJx4a65c_init_da8c8 := kc_of 70 rfl rfl rfl
theorem kc_listInit_1 : (.methodLink RJx4a65c 1 yJxc12de_init_da8c8 : Cond) ∈ wsJx4a65c_init_da8c8 := kc_of 307 rfl rfl rfl
theorem kc_listInit_2 : (.instanceMethod yJxc12de_init_da8c8 : Cond) ∈ wsJx4a65c_init_da8c8 := kc_of 308 rfl rfl rfl
theorem kc_listInit_3 : (.fieldLink RJx4a65c 39 "java/util/ArrayList" "DEFAULTCAPACITY_EMPTY_ELEMENTDATA" "[Ljava/lang/Object;" : Cond) ∈ wsJx4a65c_init_da8c8 := kc_of 314 rfl rfl rfl
theorem kc_listInit_4 : ∀ w ∈ wsJx4a65c0, w ∈ wsJx4a65c_init_da8c8 := fun w h => List.mem_cons_of_mem _ (gin_wsJx4a65c0 w h)
theorem kc_listInit_5 : (.fieldLink RJx4a65c 9 "java/util/ArrayList" "elementData" "[Ljava/lang/Object;" : Cond) ∈ wsJx4a65c_init_da8c8 := kc_of 316 rfl rfl rfl
set_option maxHeartbeats 4000000 in
set_option maxRecDepth 100000 in
theorem c_listInit (l : Launch) (dC : Nat → ClassId) (dI : Nat → Nat → Nat) (bS : Nat) (a0 : Nat) (sz : Nat) : Met l yJx4a65c_init_da8c8 wsJx4a65c_init_da8c8 ({ frames := 3, cells := 0, slots := 0, locals := 52 } : Room) (va_Pc [.ref a0] (fun U => U.heap.size = sz ∧ va_P (dC, dI) vwCl [(zo1ini a0 0 0)] U.heap ∧ va_K (dC, dI) vwCl [] U ∧ va_D (fun _ => True) [(zo1ini a0 0 0)] ∧ Gc bS (va_A [(zo1ini a0 0 0)] sz) U)) (va_Qv (fun (u : Unit) => match u with | () => True) (fun (u : Unit) (t : State) => match u with | () => va_P (dC, dI) vwCl [(zo1iri a0 0 bS 0)] t.heap ∧ va_K (dC, dI) vwCl [] t ∧ va_D (va_A [(zo1ini a0 0 0)] sz) [(zo1iri a0 0 bS 0)]) (va_A [(zo1ini a0 0 0)] sz)) 0 0 (va_A [(zo1ini a0 0 0)] sz) := by
  refine met_ofQ (cc := cJx4a65c_init_da8c8) (maxL := 1) (ret := none) (by decide) rfl ?_
  intro p e s m args below meth c s₁ Q B hml hv hQ
  obtain ⟨rfl, hsz, hP, hK, hD0, hC⟩ := hv
  have hx := B.exec
  have hb := B.bytes
  have hr := B.returns
  have hts := atoms_spec (ws := wsJx4a65c_init_da8c8) B.pre
  have hown : s.vm.findClass RJx4a65c = some m.cls := findClass_of_methodNamed B.named
  have hlocks := B.notSynchronized
  have hin : meth.name = "<init>" := (name_of_methodNamed B.named B.method).1
  subst hsz
  have hD := hD0.self (sz := s.heap.size)
  generalize hAe : va_A [(zo1ini a0 0 0)] s.heap.size = A at hD hQ hC ⊢
  have hA : ∀ q : Nat, s.heap.size ≤ q → A q := fun q h => by rw [← hAe]; exact Or.inr h
  have hS : va_S A s.heap s.heap [] := va_S.rf
  have hl := lv_entry [.ref a0] (n := 1) (Nat.le_of_ble_eq_true rfl)
  rw [lg_entry_eq]
  generalize (lg_sl [.ref a0] ++ List.replicate (1 - (lg_sl [.ref a0]).length) Slot.unset).toArray = ls at hl ⊢
  generalize hag : ([.ref a0] : List Value).toArray = args at hts hQ ⊢
  have hl : lv_has ls 1 [(0, .ref a0)] := hl
  obtain ⟨H, hH⟩ : ∃ H : Heap, H = s.heap := ⟨_, rfl⟩
  rw [← hH] at hP
  rw [← hH]
  have hS : va_S A s.heap H [] := by rw [hH]; exact hS
  obtain ⟨locs, hlo⟩ : ∃ L : List Loc, L = [] := ⟨_, rfl⟩
  rw [← hlo] at hS
  rw [← hlo]
  clear hH hlo
  refine lv_aload_n hx hb dJx4a65c_init_da8c8_0 rfl (lv_at hl 0 rfl) ?_
  have hPc := hP.sub (ws' := [(zo1ini a0 0 0)]) [0] rfl
  have hDc := hD.sub (ws' := [(zo1ini a0 0 0)]) [0] (by decide) rfl
  have hKc := hK.sub (tys' := []) [] rfl
  have hFc := va_free (wc := [(zo1ini a0 0 0)]) hD hS hA [0] rfl
  refine va_callv (va_runI (As := []) (rest := []) ⟨hx, hb, hml, hown, hts⟩ (c_alInit l dC dI a0 H.size) (cwI 0 hts ggJx4a65c_init_da8c8_Jxc12de_init_da8c8 rfl rfl rfl (hts (.initialized RJxc12de) kc_listInit_0) (hts (.methodLink RJx4a65c 1 yJxc12de_init_da8c8) kc_listInit_1) (hts (.instanceMethod yJxc12de_init_da8c8) kc_listInit_2) rfl (by decide +kernel) ⟨Nat.le_of_ble_eq_true rfl, Nat.le_of_ble_eq_true rfl⟩) ⟨fun a U g mk q => by obtain ⟨q0, q1, qP, qK, qD⟩ := q; exact ⟨q0, mvz g mk a q1, mvP g mk a qP, mvK g mk a qK, qD⟩, fun U hU hW => ⟨rfl, by rw [hU], by rw [hU]; exact hPc, va_K.moved hW.alike hKc, hDc.weaken (fun _ _ _ _ => trivial)⟩⟩ rfl rfl hl.1 rfl (lv_room (Nat.le_of_ble_eq_true rfl)) dJx4a65c_init_da8c8_1 ⟨Nat.le_of_ble_eq_true rfl, Nat.le_of_ble_eq_true rfl⟩) hS (fun q _ h => hFc q h) hFc (fun u tC H1 locs htC hvm hw_2 hB hz1 hk1 hS => ?_)
  obtain ⟨⟩ := u
  try dsimp only at hw_2 hB
  obtain ⟨hP1, hK1, hD1⟩ := hB
  rw [htC] at hP1
  have hK1 := va_K.moved hvm.symm hK1
  obtain ⟨hP, hD⟩ := va_join (wr := []) (w1 := [(zo1ini a0 0 0)]) hP hD [0] [] rfl rfl (by decide) (by decide) hk1 hFc hP1 hD1
  have hK := (hK.sub (tys' := []) [] rfl).app hK1
  generalize H1 = H at hP hS ⊢
  have hP : va_P (dC, dI) vwCl [(zo1ini a0 0 0)] H := hP
  have hD : va_D A [(zo1ini a0 0 0)] := hD
  have hK : va_K (dC, dI) vwCl [] s := hK
  refine lv_aload_n hx hb dJx4a65c_init_da8c8_4 rfl (lv_at hl 0 rfl) ?_
  refine va_gets (C := "java/util/ArrayList") (n := "DEFAULTCAPACITY_EMPTY_ELEMENTDATA") (d := "[Ljava/lang/Object;") (v := .ref bS) hx hb hC.2.2.2.2 hS hown (hts (.fieldLink RJx4a65c 39 "java/util/ArrayList" "DEFAULTCAPACITY_EMPTY_ELEMENTDATA" "[Ljava/lang/Object;") kc_listInit_3) (fun _ h9 => h9) dJx4a65c_init_da8c8_5 ?_
  refine va_put (D := (dC, dI)) (ci := 1) (v := .ref bS) (ty := .array (.object "java/lang/Object")) (C := RJx4a65c) (T := TJx4a65c) (N := 3) hx hb hts kc_listInit_4 tyJx4a65c tyJx4a65c_ok nmJx4a65c hown hK hP hD hS 0 rfl rfl 1 (by decide) (hts (.fieldLink RJx4a65c 9 "java/util/ArrayList" "elementData" "[Ljava/lang/Object;") kc_listInit_5) (fun _ h9 => h9) rfl (by decide +kernel) rfl rfl (Nat.le_of_ble_eq_true rfl) dJx4a65c_init_da8c8_8 (fun H locs hP hD hS => ?_)
  have hP : va_P (dC, dI) vwCl [(zo1iri a0 0 bS 0)] H := hP
  have hD : va_D A [(zo1iri a0 0 bS 0)] := hD
  rw [hQ]
  have hP9 := hP.sub (ws' := [(zo1iri a0 0 bS 0)]) [0] rfl
  have hD9 := hD.sub (ws' := [(zo1iri a0 0 bS 0)]) [0] (by decide) rfl
  have hK9 := hK.sub (tys' := []) [] rfl
  exact W.vret hx hb hr (fun tQ htQ hWQ => ⟨⟨(), rfl, trivial, by rw [htQ]; exact hP9, va_K.moved hWQ.alike hK9, hD9⟩, hS.F htQ⟩) hS.2.2 dJx4a65c_init_da8c8_11
end mg16b
section mg16b
theorem ggX11_init_X8_init : GoodIn wsX11_init wsX8_init := gga_of 105 rfl rfl rfl
theorem ggX11_init_X5_init : GoodIn wsX11_init wsX5_init := gga_of 111 rfl rfl rfl
theorem ggX11_init_X2_init : GoodIn wsX11_init wsX2_init := gga_of 220 rfl rfl rfl
theorem ggX11_init_X0_init : GoodIn wsX11_init wsX0_init := gga_of 278 rfl rfl rfl
theorem ggX11_init_Jx4a65c_init_da8c8 : GoodIn wsX11_init wsJx4a65c_init_da8c8 := gga_of 306 rfl rfl rfl
noncomputable def dk17cinit_cX12_init_0 : List (Nat × List Nat) := [(0, [42]), (1, [183, 0, 3]), (4, [42]), (5, [17, 3, 133]), (10, [181, 0, 9]), (13, [42]), (14, [17, 3, 133]), (19, [181, 0, 15]), (22, [42]), (23, [16, 6]), (27, [181, 0, 18]), (30, [42]), (31, [16, 64]), (35, [181, 0, 21]), (38, [42]), (39, [16, 9]), (43, [181, 0, 25]), (46, [42]), (47, [16, 36]), (51, [181, 0, 28]), (54, [42]), (55, [16, 36]), (59, [181, 0, 32]), (62, [42]), (63, [16, 36]), (67, [181, 0, 35]), (70, [42]), (71, [16, 20]), (75, [181, 0, 38]), (78, [42]), (79, [180, 0, 9])]
set_option maxRecDepth 100000 in
theorem dk17cinit_cX12_init_0_a : btA cX12_init dk17cinit_cX12_init_0 = true := by decide +kernel
theorem dX12_init_0 : decode cX12_init 0 = .ok (.aload_n 0, 1) := bd42 (btAt dk17cinit_cX12_init_0_a 0 rfl)
theorem dX12_init_1 : decode cX12_init 1 = .ok (.invokespecial 3, 3) := bd183 (a := 0) (b := 3) (btAt dk17cinit_cX12_init_0_a 1 rfl)
theorem dX12_init_4 : decode cX12_init 4 = .ok (.aload_n 0, 1) := bd42 (btAt dk17cinit_cX12_init_0_a 2 rfl)
theorem dX12_init_5 : decode cX12_init 5 = .ok (.sipush 901, 3) := bd17 (a := 3) (b := 133) (btAt dk17cinit_cX12_init_0_a 3 rfl)
theorem dX12_init_10 : decode cX12_init 10 = .ok (.putfield 9, 3) := bd181 (a := 0) (b := 9) (btAt dk17cinit_cX12_init_0_a 4 rfl)
theorem dX12_init_13 : decode cX12_init 13 = .ok (.aload_n 0, 1) := bd42 (btAt dk17cinit_cX12_init_0_a 5 rfl)
theorem dX12_init_14 : decode cX12_init 14 = .ok (.sipush 901, 3) := bd17 (a := 3) (b := 133) (btAt dk17cinit_cX12_init_0_a 6 rfl)
theorem dX12_init_19 : decode cX12_init 19 = .ok (.putfield 15, 3) := bd181 (a := 0) (b := 15) (btAt dk17cinit_cX12_init_0_a 7 rfl)
theorem dX12_init_22 : decode cX12_init 22 = .ok (.aload_n 0, 1) := bd42 (btAt dk17cinit_cX12_init_0_a 8 rfl)
theorem dX12_init_23 : decode cX12_init 23 = .ok (.bipush 6, 2) := bd16 (a := 6) (btAt dk17cinit_cX12_init_0_a 9 rfl)
theorem dX12_init_27 : decode cX12_init 27 = .ok (.putfield 18, 3) := bd181 (a := 0) (b := 18) (btAt dk17cinit_cX12_init_0_a 10 rfl)
theorem dX12_init_30 : decode cX12_init 30 = .ok (.aload_n 0, 1) := bd42 (btAt dk17cinit_cX12_init_0_a 11 rfl)
theorem dX12_init_31 : decode cX12_init 31 = .ok (.bipush 64, 2) := bd16 (a := 64) (btAt dk17cinit_cX12_init_0_a 12 rfl)
theorem dX12_init_35 : decode cX12_init 35 = .ok (.putfield 21, 3) := bd181 (a := 0) (b := 21) (btAt dk17cinit_cX12_init_0_a 13 rfl)
theorem dX12_init_38 : decode cX12_init 38 = .ok (.aload_n 0, 1) := bd42 (btAt dk17cinit_cX12_init_0_a 14 rfl)
theorem dX12_init_39 : decode cX12_init 39 = .ok (.bipush 9, 2) := bd16 (a := 9) (btAt dk17cinit_cX12_init_0_a 15 rfl)
theorem dX12_init_43 : decode cX12_init 43 = .ok (.putfield 25, 3) := bd181 (a := 0) (b := 25) (btAt dk17cinit_cX12_init_0_a 16 rfl)
theorem dX12_init_46 : decode cX12_init 46 = .ok (.aload_n 0, 1) := bd42 (btAt dk17cinit_cX12_init_0_a 17 rfl)
theorem dX12_init_47 : decode cX12_init 47 = .ok (.bipush 36, 2) := bd16 (a := 36) (btAt dk17cinit_cX12_init_0_a 18 rfl)
theorem dX12_init_51 : decode cX12_init 51 = .ok (.putfield 28, 3) := bd181 (a := 0) (b := 28) (btAt dk17cinit_cX12_init_0_a 19 rfl)
theorem dX12_init_54 : decode cX12_init 54 = .ok (.aload_n 0, 1) := bd42 (btAt dk17cinit_cX12_init_0_a 20 rfl)
theorem dX12_init_55 : decode cX12_init 55 = .ok (.bipush 36, 2) := bd16 (a := 36) (btAt dk17cinit_cX12_init_0_a 21 rfl)
theorem dX12_init_59 : decode cX12_init 59 = .ok (.putfield 32, 3) := bd181 (a := 0) (b := 32) (btAt dk17cinit_cX12_init_0_a 22 rfl)
theorem dX12_init_62 : decode cX12_init 62 = .ok (.aload_n 0, 1) := bd42 (btAt dk17cinit_cX12_init_0_a 23 rfl)
theorem dX12_init_63 : decode cX12_init 63 = .ok (.bipush 36, 2) := bd16 (a := 36) (btAt dk17cinit_cX12_init_0_a 24 rfl)
theorem dX12_init_67 : decode cX12_init 67 = .ok (.putfield 35, 3) := bd181 (a := 0) (b := 35) (btAt dk17cinit_cX12_init_0_a 25 rfl)
theorem dX12_init_70 : decode cX12_init 70 = .ok (.aload_n 0, 1) := bd42 (btAt dk17cinit_cX12_init_0_a 26 rfl)
theorem dX12_init_71 : decode cX12_init 71 = .ok (.bipush 20, 2) := bd16 (a := 20) (btAt dk17cinit_cX12_init_0_a 27 rfl)
theorem dX12_init_75 : decode cX12_init 75 = .ok (.putfield 38, 3) := bd181 (a := 0) (b := 38) (btAt dk17cinit_cX12_init_0_a 28 rfl)
theorem dX12_init_78 : decode cX12_init 78 = .ok (.aload_n 0, 1) := bd42 (btAt dk17cinit_cX12_init_0_a 29 rfl)
theorem dX12_init_79 : decode cX12_init 79 = .ok (.getfield 9, 3) := bd180 (a := 0) (b := 9) (btAt dk17cinit_cX12_init_0_a 30 rfl)
set_option maxRecDepth 100000 in
theorem dX12_init_8 : decode cX12_init 8 = .ok (.newarray .int, 2) := by decide +kernel
set_option maxRecDepth 100000 in
theorem dX12_init_17 : decode cX12_init 17 = .ok (.newarray .int, 2) := by decide +kernel
set_option maxRecDepth 100000 in
theorem dX12_init_25 : decode cX12_init 25 = .ok (.newarray .int, 2) := by decide +kernel
set_option maxRecDepth 100000 in
theorem dX12_init_33 : decode cX12_init 33 = .ok (.newarray .boolean, 2) := by decide +kernel
set_option maxRecDepth 100000 in
theorem dX12_init_41 : decode cX12_init 41 = .ok (.newarray .int, 2) := by decide +kernel
set_option maxRecDepth 100000 in
theorem dX12_init_49 : decode cX12_init 49 = .ok (.newarray .long, 2) := by decide +kernel
set_option maxRecDepth 100000 in
theorem dX12_init_57 : decode cX12_init 57 = .ok (.newarray .long, 2) := by decide +kernel
set_option maxRecDepth 100000 in
theorem dX12_init_65 : decode cX12_init 65 = .ok (.newarray .int, 2) := by decide +kernel
set_option maxRecDepth 100000 in
theorem dX12_init_73 : decode cX12_init 73 = .ok (.newarray .int, 2) := by decide +kernel
noncomputable def dk17cinit_cX12_init_40 : List (Nat × List Nat) := [(82, [8]), (83, [2]), (84, [79]), (85, [177])]
set_option maxRecDepth 100000 in
theorem dk17cinit_cX12_init_40_a : btA cX12_init dk17cinit_cX12_init_40 = true := by decide +kernel
theorem dX12_init_82 : decode cX12_init 82 = .ok (.iconst 5, 1) := bd8 (btAt dk17cinit_cX12_init_40_a 0 rfl)
theorem dX12_init_83 : decode cX12_init 83 = .ok (.iconst (-1), 1) := bd2 (btAt dk17cinit_cX12_init_40_a 1 rfl)
theorem dX12_init_84 : decode cX12_init 84 = .ok (.iastore, 1) := bd79 (btAt dk17cinit_cX12_init_40_a 2 rfl)
theorem dX12_init_85 : decode cX12_init 85 = .ok (.return_, 1) := bd177 (btAt dk17cinit_cX12_init_40_a 3 rfl)
noncomputable def dk17cinit_cX11_init_0 : List (Nat × List Nat) := [(0, [42]), (1, [183, 0, 5]), (4, [42]), (5, [187, 0, 11]), (8, [89]), (9, [183, 0, 13]), (12, [181, 0, 14]), (15, [42]), (16, [187, 0, 11]), (19, [89]), (20, [183, 0, 13]), (23, [181, 0, 18]), (26, [42]), (27, [3]), (28, [181, 0, 21]), (31, [42]), (32, [187, 0, 25]), (35, [89]), (36, [183, 0, 27]), (39, [181, 0, 28]), (42, [42]), (43, [187, 0, 32]), (46, [89]), (47, [183, 0, 34]), (50, [181, 0, 35]), (53, [42]), (54, [187, 0, 39]), (57, [89]), (58, [183, 0, 41]), (61, [181, 0, 42]), (64, [42]), (65, [187, 0, 46]), (68, [89]), (69, [183, 0, 48]), (72, [181, 0, 49]), (75, [177])]
set_option maxRecDepth 100000 in
theorem dk17cinit_cX11_init_0_a : btA cX11_init dk17cinit_cX11_init_0 = true := by decide +kernel
theorem dX11_init_0 : decode cX11_init 0 = .ok (.aload_n 0, 1) := bd42 (btAt dk17cinit_cX11_init_0_a 0 rfl)
theorem dX11_init_1 : decode cX11_init 1 = .ok (.invokespecial 5, 3) := bd183 (a := 0) (b := 5) (btAt dk17cinit_cX11_init_0_a 1 rfl)
theorem dX11_init_4 : decode cX11_init 4 = .ok (.aload_n 0, 1) := bd42 (btAt dk17cinit_cX11_init_0_a 2 rfl)
theorem dX11_init_5 : decode cX11_init 5 = .ok (.new 11, 3) := bd187 (a := 0) (b := 11) (btAt dk17cinit_cX11_init_0_a 3 rfl)
theorem dX11_init_8 : decode cX11_init 8 = .ok (.dup, 1) := bd89 (btAt dk17cinit_cX11_init_0_a 4 rfl)
theorem dX11_init_9 : decode cX11_init 9 = .ok (.invokespecial 13, 3) := bd183 (a := 0) (b := 13) (btAt dk17cinit_cX11_init_0_a 5 rfl)
theorem dX11_init_12 : decode cX11_init 12 = .ok (.putfield 14, 3) := bd181 (a := 0) (b := 14) (btAt dk17cinit_cX11_init_0_a 6 rfl)
theorem dX11_init_15 : decode cX11_init 15 = .ok (.aload_n 0, 1) := bd42 (btAt dk17cinit_cX11_init_0_a 7 rfl)
theorem dX11_init_16 : decode cX11_init 16 = .ok (.new 11, 3) := bd187 (a := 0) (b := 11) (btAt dk17cinit_cX11_init_0_a 8 rfl)
theorem dX11_init_19 : decode cX11_init 19 = .ok (.dup, 1) := bd89 (btAt dk17cinit_cX11_init_0_a 9 rfl)
theorem dX11_init_20 : decode cX11_init 20 = .ok (.invokespecial 13, 3) := bd183 (a := 0) (b := 13) (btAt dk17cinit_cX11_init_0_a 10 rfl)
theorem dX11_init_23 : decode cX11_init 23 = .ok (.putfield 18, 3) := bd181 (a := 0) (b := 18) (btAt dk17cinit_cX11_init_0_a 11 rfl)
theorem dX11_init_26 : decode cX11_init 26 = .ok (.aload_n 0, 1) := bd42 (btAt dk17cinit_cX11_init_0_a 12 rfl)
theorem dX11_init_27 : decode cX11_init 27 = .ok (.iconst 0, 1) := bd3 (btAt dk17cinit_cX11_init_0_a 13 rfl)
theorem dX11_init_28 : decode cX11_init 28 = .ok (.putfield 21, 3) := bd181 (a := 0) (b := 21) (btAt dk17cinit_cX11_init_0_a 14 rfl)
theorem dX11_init_31 : decode cX11_init 31 = .ok (.aload_n 0, 1) := bd42 (btAt dk17cinit_cX11_init_0_a 15 rfl)
theorem dX11_init_32 : decode cX11_init 32 = .ok (.new 25, 3) := bd187 (a := 0) (b := 25) (btAt dk17cinit_cX11_init_0_a 16 rfl)
theorem dX11_init_35 : decode cX11_init 35 = .ok (.dup, 1) := bd89 (btAt dk17cinit_cX11_init_0_a 17 rfl)
theorem dX11_init_36 : decode cX11_init 36 = .ok (.invokespecial 27, 3) := bd183 (a := 0) (b := 27) (btAt dk17cinit_cX11_init_0_a 18 rfl)
theorem dX11_init_39 : decode cX11_init 39 = .ok (.putfield 28, 3) := bd181 (a := 0) (b := 28) (btAt dk17cinit_cX11_init_0_a 19 rfl)
theorem dX11_init_42 : decode cX11_init 42 = .ok (.aload_n 0, 1) := bd42 (btAt dk17cinit_cX11_init_0_a 20 rfl)
theorem dX11_init_43 : decode cX11_init 43 = .ok (.new 32, 3) := bd187 (a := 0) (b := 32) (btAt dk17cinit_cX11_init_0_a 21 rfl)
theorem dX11_init_46 : decode cX11_init 46 = .ok (.dup, 1) := bd89 (btAt dk17cinit_cX11_init_0_a 22 rfl)
theorem dX11_init_47 : decode cX11_init 47 = .ok (.invokespecial 34, 3) := bd183 (a := 0) (b := 34) (btAt dk17cinit_cX11_init_0_a 23 rfl)
theorem dX11_init_50 : decode cX11_init 50 = .ok (.putfield 35, 3) := bd181 (a := 0) (b := 35) (btAt dk17cinit_cX11_init_0_a 24 rfl)
theorem dX11_init_53 : decode cX11_init 53 = .ok (.aload_n 0, 1) := bd42 (btAt dk17cinit_cX11_init_0_a 25 rfl)
theorem dX11_init_54 : decode cX11_init 54 = .ok (.new 39, 3) := bd187 (a := 0) (b := 39) (btAt dk17cinit_cX11_init_0_a 26 rfl)
theorem dX11_init_57 : decode cX11_init 57 = .ok (.dup, 1) := bd89 (btAt dk17cinit_cX11_init_0_a 27 rfl)
theorem dX11_init_58 : decode cX11_init 58 = .ok (.invokespecial 41, 3) := bd183 (a := 0) (b := 41) (btAt dk17cinit_cX11_init_0_a 28 rfl)
theorem dX11_init_61 : decode cX11_init 61 = .ok (.putfield 42, 3) := bd181 (a := 0) (b := 42) (btAt dk17cinit_cX11_init_0_a 29 rfl)
theorem dX11_init_64 : decode cX11_init 64 = .ok (.aload_n 0, 1) := bd42 (btAt dk17cinit_cX11_init_0_a 30 rfl)
theorem dX11_init_65 : decode cX11_init 65 = .ok (.new 46, 3) := bd187 (a := 0) (b := 46) (btAt dk17cinit_cX11_init_0_a 31 rfl)
theorem dX11_init_68 : decode cX11_init 68 = .ok (.dup, 1) := bd89 (btAt dk17cinit_cX11_init_0_a 32 rfl)
theorem dX11_init_69 : decode cX11_init 69 = .ok (.invokespecial 48, 3) := bd183 (a := 0) (b := 48) (btAt dk17cinit_cX11_init_0_a 33 rfl)
theorem dX11_init_72 : decode cX11_init 72 = .ok (.putfield 49, 3) := bd181 (a := 0) (b := 49) (btAt dk17cinit_cX11_init_0_a 34 rfl)
theorem dX11_init_75 : decode cX11_init 75 = .ok (.return_, 1) := bd177 (btAt dk17cinit_cX11_init_0_a 35 rfl)
theorem kc_modelInit_0 : (.methodLink RX12 3 objectInit : Cond) ∈ wsX12_init := kc_of 1140 rfl rfl rfl
theorem kc_modelInit_1 : (.instanceMethod objectInit : Cond) ∈ wsX12_init := kc_of 99 rfl rfl rfl
theorem kc_modelInit_2 : (.code objectInit ⟨#[0xb1]⟩ 1 none : Cond) ∈ wsX12_init := kc_of 100 rfl rfl rfl
theorem kc_modelInit_3 : (.arrayClass .int : Cond) ∈ wsX12_init := kc_of 149 rfl rfl rfl
theorem kc_modelInit_4 : ∀ w ∈ wsX120, w ∈ wsX12_init := fun w h => List.mem_cons_of_mem _ (gin_wsX120 w h)
theorem kc_modelInit_5 : (.fieldLink RX12 9 "MistHeapsModel" "s" "[I" : Cond) ∈ wsX12_init := kc_of 1141 rfl rfl rfl
theorem kc_modelInit_6 : (.fieldLink RX12 15 "MistHeapsModel" "image" "[I" : Cond) ∈ wsX12_init := kc_of 1142 rfl rfl rfl
theorem kc_modelInit_7 : (.fieldLink RX12 18 "MistHeapsModel" "by" "[I" : Cond) ∈ wsX12_init := kc_of 1149 rfl rfl rfl
theorem kc_modelInit_8 : (.arrayClass .boolean : Cond) ∈ wsX12_init := kc_of 1210 rfl rfl rfl
theorem kc_modelInit_9 : (.fieldLink RX12 21 "MistHeapsModel" "truths" "[Z" : Cond) ∈ wsX12_init := kc_of 1150 rfl rfl rfl
theorem kc_modelInit_10 : (.fieldLink RX12 25 "MistHeapsModel" "goes" "[I" : Cond) ∈ wsX12_init := kc_of 1153 rfl rfl rfl
theorem kc_modelInit_11 : (.arrayClass .long : Cond) ∈ wsX12_init := kc_of 301 rfl rfl rfl
theorem kc_modelInit_12 : (.fieldLink RX12 28 "MistHeapsModel" "often" "[J" : Cond) ∈ wsX12_init := kc_of 1154 rfl rfl rfl
theorem kc_modelInit_13 : (.fieldLink RX12 32 "MistHeapsModel" "then" "[J" : Cond) ∈ wsX12_init := kc_of 1155 rfl rfl rfl
theorem kc_modelInit_14 : (.fieldLink RX12 35 "MistHeapsModel" "drifts" "[I" : Cond) ∈ wsX12_init := kc_of 1156 rfl rfl rfl
theorem kc_modelInit_15 : (.fieldLink RX12 38 "MistHeapsModel" "bodies" "[I" : Cond) ∈ wsX12_init := kc_of 1158 rfl rfl rfl
set_option maxHeartbeats 4000000 in
set_option maxRecDepth 100000 in
theorem c_modelInit (l : Launch) (dC : Nat → ClassId) (dI : Nat → Nat → Nat) (m0 : Nat) (sz : Nat) : Met l yX12_init wsX12_init ({ frames := 1, cells := 9, slots := 2009, locals := 12 } : Room) (va_Pc [.ref m0] (fun U => U.heap.size = sz ∧ va_P (dC, dI) vwCl [(zo14inniiiiiinniinnnnlniiii m0 0 0 0 0 0 0 0 0 0 0 0 0 0 0)] U.heap ∧ va_K (dC, dI) vwCl [] U ∧ va_D (fun _ => True) [(zo14inniiiiiinniinnnnlniiii m0 0 0 0 0 0 0 0 0 0 0 0 0 0 0)])) (va_Qv (fun (u : Unit) => match u with | () => True) (fun (u : Unit) (t : State) => match u with | () => ∃ aS : Nat, ∃ aI : Nat, ∃ aB : Nat, ∃ aT : Nat, ∃ aG : Nat, ∃ aO : Nat, ∃ aN : Nat, ∃ aD : Nat, ∃ aY : Nat, ∃ cS : ClassId, ∃ cI : ClassId, ∃ cB : ClassId, ∃ cT : ClassId, ∃ cG : ClassId, ∃ cO : ClassId, ∃ cN : ClassId, ∃ cD : ClassId, ∃ cY : ClassId, va_P (dC, dI) vwCl [(zo14irriiiiiirriirrrrlriiii m0 0 aS aI 0 0 0 0 0 0 aB aT 0 0 aG aO aN aD 0 aY 0 0 0 0), (zaI aS cS 901 s0), (zaI aI cI 901 (fun _ => 0)), (zaI aB cB 6 (fun _ => 0)), (zaI aT cT 64 (fun _ => 0)), (zaI aG cG 9 (fun _ => 0)), (zaL aO cO 36 (fun _ => 0)), (zaL aN cN 36 (fun _ => 0)), (zaI aD cD 36 (fun _ => 0)), (zaI aY cY 20 (fun _ => 0))] t.heap ∧ va_K (dC, dI) vwCl [(cS, .int), (cI, .int), (cB, .int), (cT, .boolean), (cG, .int), (cO, .long), (cN, .long), (cD, .int), (cY, .int)] t ∧ va_D (va_A [(zo14inniiiiiinniinnnnlniiii m0 0 0 0 0 0 0 0 0 0 0 0 0 0 0)] sz) [(zo14irriiiiiirriirrrrlriiii m0 0 aS aI 0 0 0 0 0 0 aB aT 0 0 aG aO aN aD 0 aY 0 0 0 0), (zaI aS cS 901 s0), (zaI aI cI 901 (fun _ => 0)), (zaI aB cB 6 (fun _ => 0)), (zaI aT cT 64 (fun _ => 0)), (zaI aG cG 9 (fun _ => 0)), (zaL aO cO 36 (fun _ => 0)), (zaL aN cN 36 (fun _ => 0)), (zaI aD cD 36 (fun _ => 0)), (zaI aY cY 20 (fun _ => 0))]) (va_A [(zo14inniiiiiinniinnnnlniiii m0 0 0 0 0 0 0 0 0 0 0 0 0 0 0)] sz)) 9 2009 (va_A [(zo14inniiiiiinniinnnnlniiii m0 0 0 0 0 0 0 0 0 0 0 0 0 0 0)] sz) := by
  refine met_ofQ (cc := cX12_init) (maxL := 1) (ret := none) (by decide) rfl ?_
  intro p e s m args below meth c s₁ Q B hml hv hQ
  obtain ⟨rfl, hsz, hP, hK, hD0⟩ := hv
  have hx := B.exec
  have hb := B.bytes
  have hr := B.returns
  have hts := atoms_spec (ws := wsX12_init) B.pre
  have hown : s.vm.findClass RX12 = some m.cls := findClass_of_methodNamed B.named
  have hlocks := B.notSynchronized
  have hin : meth.name = "<init>" := (name_of_methodNamed B.named B.method).1
  subst hsz
  have hD := hD0.self (sz := s.heap.size)
  generalize hAe : va_A [(zo14inniiiiiinniinnnnlniiii m0 0 0 0 0 0 0 0 0 0 0 0 0 0 0)] s.heap.size = A at hD hQ ⊢
  have hA : ∀ q : Nat, s.heap.size ≤ q → A q := fun q h => by rw [← hAe]; exact Or.inr h
  have hS : va_S A s.heap s.heap [] := va_S.rf
  have hl := lv_entry [.ref m0] (n := 1) (Nat.le_of_ble_eq_true rfl)
  rw [lg_entry_eq]
  generalize (lg_sl [.ref m0] ++ List.replicate (1 - (lg_sl [.ref m0]).length) Slot.unset).toArray = ls at hl ⊢
  generalize hag : ([.ref m0] : List Value).toArray = args at hts hQ ⊢
  have hl : lv_has ls 1 [(0, .ref m0)] := hl
  obtain ⟨H, hH⟩ : ∃ H : Heap, H = s.heap := ⟨_, rfl⟩
  rw [← hH] at hP
  rw [← hH]
  have hS : va_S A s.heap H [] := by rw [hH]; exact hS
  obtain ⟨locs, hlo⟩ : ∃ L : List Loc, L = [] := ⟨_, rfl⟩
  rw [← hlo] at hS
  rw [← hlo]
  clear hH hlo
  refine lv_aload_n hx hb dX12_init_0 rfl (lv_at hl 0 rfl) ?_
  refine W.objInit hx hb hown (hts (.methodLink RX12 3 objectInit) kc_modelInit_0) (hts (.instanceMethod objectInit) kc_modelInit_1) (hts (.code objectInit ⟨#[0xb1]⟩ 1 none) kc_modelInit_2) rfl (by rw [hml]; exact hl.1) rfl dX12_init_1 (Nat.le_of_ble_eq_true rfl) (Nat.le_of_ble_eq_true rfl) ?_
  refine W.eq (g2 := F0 m 4 ls []) rfl ?_
  refine lv_aload_n hx hb dX12_init_4 rfl (lv_at hl 0 rfl) ?_
  refine lv_sipush (v := 901) hx hb dX12_init_5 (by decide) ?_
  refine va_newa (atype := .int) (ty := .int) (N' := 901) (a0 := (901, .inl (fun _ => 0))) hx hb (hts (.arrayClass .int) kc_modelInit_3) rfl hK hP hD hS hA (fun _ => rfl) (by decide) (by decide) (by decide) (Nat.le_of_ble_eq_true rfl) (Nat.le_of_ble_eq_true rfl) dX12_init_8 (fun q_1 ca_2 H hK hP hD hS => ?_)
  have hP : va_P (dC, dI) vwCl [(zo14inniiiiiinniinnnnlniiii m0 0 0 0 0 0 0 0 0 0 0 0 0 0 0), (zaI q_1 ca_2 901 (fun _ => 0))] H := hP
  have hD : va_D A [(zo14inniiiiiinniinnnnlniiii m0 0 0 0 0 0 0 0 0 0 0 0 0 0 0), (zaI q_1 ca_2 901 (fun _ => 0))] := hD
  have hK : va_K (dC, dI) vwCl [(ca_2, .int)] s := hK
  refine W.widen (k := 1) (n := 901) (by omega) (by omega) ?_
  refine va_putF (D := (dC, dI)) (ci := 14) (v := .ref q_1) (ty := .array .int) (C := RX12) (T := TX12) (N := 23) hx hb hts kc_modelInit_4 tyX12 tyX12_ok nmX12 hown hK hP hD hS 0 rfl rfl 1 (by decide) (hts (.fieldLink RX12 9 "MistHeapsModel" "s" "[I") kc_modelInit_5) (fun _ h9 => h9) rfl hin rfl (by decide +kernel) rfl rfl (Nat.le_of_ble_eq_true rfl) dX12_init_10 (fun H locs hP hD hS => ?_)
  have hP : va_P (dC, dI) vwCl [(zo14irniiiiiinniinnnnlniiii m0 0 q_1 0 0 0 0 0 0 0 0 0 0 0 0 0), (zaI q_1 ca_2 901 (fun _ => 0))] H := hP
  have hD : va_D A [(zo14irniiiiiinniinnnnlniiii m0 0 q_1 0 0 0 0 0 0 0 0 0 0 0 0 0), (zaI q_1 ca_2 901 (fun _ => 0))] := hD
  refine lv_aload_n hx hb dX12_init_13 rfl (lv_at hl 0 rfl) ?_
  refine lv_sipush (v := 901) hx hb dX12_init_14 (by decide) ?_
  refine va_newa (atype := .int) (ty := .int) (N' := 901) (a0 := (901, .inl (fun _ => 0))) hx hb (hts (.arrayClass .int) kc_modelInit_3) rfl hK hP hD hS hA (fun _ => rfl) (by decide) (by decide) (by decide) (Nat.le_of_ble_eq_true rfl) (Nat.le_of_ble_eq_true rfl) dX12_init_17 (fun q_3 ca_4 H hK hP hD hS => ?_)
  have hP : va_P (dC, dI) vwCl [(zo14irniiiiiinniinnnnlniiii m0 0 q_1 0 0 0 0 0 0 0 0 0 0 0 0 0), (zaI q_1 ca_2 901 (fun _ => 0)), (zaI q_3 ca_4 901 (fun _ => 0))] H := hP
  have hD : va_D A [(zo14irniiiiiinniinnnnlniiii m0 0 q_1 0 0 0 0 0 0 0 0 0 0 0 0 0), (zaI q_1 ca_2 901 (fun _ => 0)), (zaI q_3 ca_4 901 (fun _ => 0))] := hD
  have hK : va_K (dC, dI) vwCl [(ca_2, .int), (ca_4, .int)] s := hK
  refine W.widen (k := 2) (n := 1802) (by omega) (by omega) ?_
  refine va_putF (D := (dC, dI)) (ci := 14) (v := .ref q_3) (ty := .array .int) (C := RX12) (T := TX12) (N := 23) hx hb hts kc_modelInit_4 tyX12 tyX12_ok nmX12 hown hK hP hD hS 0 rfl rfl 2 (by decide) (hts (.fieldLink RX12 15 "MistHeapsModel" "image" "[I") kc_modelInit_6) (fun _ h9 => h9) rfl hin rfl (by decide +kernel) rfl rfl (Nat.le_of_ble_eq_true rfl) dX12_init_19 (fun H locs hP hD hS => ?_)
  have hP : va_P (dC, dI) vwCl [(zo14irriiiiiinniinnnnlniiii m0 0 q_1 q_3 0 0 0 0 0 0 0 0 0 0 0 0 0), (zaI q_1 ca_2 901 (fun _ => 0)), (zaI q_3 ca_4 901 (fun _ => 0))] H := hP
  have hD : va_D A [(zo14irriiiiiinniinnnnlniiii m0 0 q_1 q_3 0 0 0 0 0 0 0 0 0 0 0 0 0), (zaI q_1 ca_2 901 (fun _ => 0)), (zaI q_3 ca_4 901 (fun _ => 0))] := hD
  refine lv_aload_n hx hb dX12_init_22 rfl (lv_at hl 0 rfl) ?_
  refine lv_bipush (v := 6) hx hb dX12_init_23 (by decide) ?_
  refine va_newa (atype := .int) (ty := .int) (N' := 6) (a0 := (6, .inl (fun _ => 0))) hx hb (hts (.arrayClass .int) kc_modelInit_3) rfl hK hP hD hS hA (fun _ => rfl) (by decide) (by decide) (by decide) (Nat.le_of_ble_eq_true rfl) (Nat.le_of_ble_eq_true rfl) dX12_init_25 (fun q_5 ca_6 H hK hP hD hS => ?_)
  have hP : va_P (dC, dI) vwCl [(zo14irriiiiiinniinnnnlniiii m0 0 q_1 q_3 0 0 0 0 0 0 0 0 0 0 0 0 0), (zaI q_1 ca_2 901 (fun _ => 0)), (zaI q_3 ca_4 901 (fun _ => 0)), (zaI q_5 ca_6 6 (fun _ => 0))] H := hP
  have hD : va_D A [(zo14irriiiiiinniinnnnlniiii m0 0 q_1 q_3 0 0 0 0 0 0 0 0 0 0 0 0 0), (zaI q_1 ca_2 901 (fun _ => 0)), (zaI q_3 ca_4 901 (fun _ => 0)), (zaI q_5 ca_6 6 (fun _ => 0))] := hD
  have hK : va_K (dC, dI) vwCl [(ca_2, .int), (ca_4, .int), (ca_6, .int)] s := hK
  refine W.widen (k := 3) (n := 1808) (by omega) (by omega) ?_
  refine va_putF (D := (dC, dI)) (ci := 14) (v := .ref q_5) (ty := .array .int) (C := RX12) (T := TX12) (N := 23) hx hb hts kc_modelInit_4 tyX12 tyX12_ok nmX12 hown hK hP hD hS 0 rfl rfl 9 (by decide) (hts (.fieldLink RX12 18 "MistHeapsModel" "by" "[I") kc_modelInit_7) (fun _ h9 => h9) rfl hin rfl (by decide +kernel) rfl rfl (Nat.le_of_ble_eq_true rfl) dX12_init_27 (fun H locs hP hD hS => ?_)
  have hP : va_P (dC, dI) vwCl [(zo14irriiiiiirniinnnnlniiii m0 0 q_1 q_3 0 0 0 0 0 0 q_5 0 0 0 0 0 0 0), (zaI q_1 ca_2 901 (fun _ => 0)), (zaI q_3 ca_4 901 (fun _ => 0)), (zaI q_5 ca_6 6 (fun _ => 0))] H := hP
  have hD : va_D A [(zo14irriiiiiirniinnnnlniiii m0 0 q_1 q_3 0 0 0 0 0 0 q_5 0 0 0 0 0 0 0), (zaI q_1 ca_2 901 (fun _ => 0)), (zaI q_3 ca_4 901 (fun _ => 0)), (zaI q_5 ca_6 6 (fun _ => 0))] := hD
  refine lv_aload_n hx hb dX12_init_30 rfl (lv_at hl 0 rfl) ?_
  refine lv_bipush (v := 64) hx hb dX12_init_31 (by decide) ?_
  refine va_newa (atype := .boolean) (ty := .boolean) (N' := 64) (a0 := (64, .inl (fun _ => 0))) hx hb (hts (.arrayClass .boolean) kc_modelInit_8) rfl hK hP hD hS hA (fun _ => rfl) (by decide) (by decide) (by decide) (Nat.le_of_ble_eq_true rfl) (Nat.le_of_ble_eq_true rfl) dX12_init_33 (fun q_7 ca_8 H hK hP hD hS => ?_)
  have hP : va_P (dC, dI) vwCl [(zo14irriiiiiirniinnnnlniiii m0 0 q_1 q_3 0 0 0 0 0 0 q_5 0 0 0 0 0 0 0), (zaI q_1 ca_2 901 (fun _ => 0)), (zaI q_3 ca_4 901 (fun _ => 0)), (zaI q_5 ca_6 6 (fun _ => 0)), (zaI q_7 ca_8 64 (fun _ => 0))] H := hP
  have hD : va_D A [(zo14irriiiiiirniinnnnlniiii m0 0 q_1 q_3 0 0 0 0 0 0 q_5 0 0 0 0 0 0 0), (zaI q_1 ca_2 901 (fun _ => 0)), (zaI q_3 ca_4 901 (fun _ => 0)), (zaI q_5 ca_6 6 (fun _ => 0)), (zaI q_7 ca_8 64 (fun _ => 0))] := hD
  have hK : va_K (dC, dI) vwCl [(ca_2, .int), (ca_4, .int), (ca_6, .int), (ca_8, .boolean)] s := hK
  refine W.widen (k := 4) (n := 1872) (by omega) (by omega) ?_
  refine va_putF (D := (dC, dI)) (ci := 14) (v := .ref q_7) (ty := .array .boolean) (C := RX12) (T := TX12) (N := 23) hx hb hts kc_modelInit_4 tyX12 tyX12_ok nmX12 hown hK hP hD hS 0 rfl rfl 10 (by decide) (hts (.fieldLink RX12 21 "MistHeapsModel" "truths" "[Z") kc_modelInit_9) (fun _ h9 => h9) rfl hin rfl (by decide +kernel) rfl rfl (Nat.le_of_ble_eq_true rfl) dX12_init_35 (fun H locs hP hD hS => ?_)
  have hP : va_P (dC, dI) vwCl [(zo14irriiiiiirriinnnnlniiii m0 0 q_1 q_3 0 0 0 0 0 0 q_5 q_7 0 0 0 0 0 0 0), (zaI q_1 ca_2 901 (fun _ => 0)), (zaI q_3 ca_4 901 (fun _ => 0)), (zaI q_5 ca_6 6 (fun _ => 0)), (zaI q_7 ca_8 64 (fun _ => 0))] H := hP
  have hD : va_D A [(zo14irriiiiiirriinnnnlniiii m0 0 q_1 q_3 0 0 0 0 0 0 q_5 q_7 0 0 0 0 0 0 0), (zaI q_1 ca_2 901 (fun _ => 0)), (zaI q_3 ca_4 901 (fun _ => 0)), (zaI q_5 ca_6 6 (fun _ => 0)), (zaI q_7 ca_8 64 (fun _ => 0))] := hD
  refine lv_aload_n hx hb dX12_init_38 rfl (lv_at hl 0 rfl) ?_
  refine lv_bipush (v := 9) hx hb dX12_init_39 (by decide) ?_
  refine va_newa (atype := .int) (ty := .int) (N' := 9) (a0 := (9, .inl (fun _ => 0))) hx hb (hts (.arrayClass .int) kc_modelInit_3) rfl hK hP hD hS hA (fun _ => rfl) (by decide) (by decide) (by decide) (Nat.le_of_ble_eq_true rfl) (Nat.le_of_ble_eq_true rfl) dX12_init_41 (fun q_9 ca_10 H hK hP hD hS => ?_)
  have hP : va_P (dC, dI) vwCl [(zo14irriiiiiirriinnnnlniiii m0 0 q_1 q_3 0 0 0 0 0 0 q_5 q_7 0 0 0 0 0 0 0), (zaI q_1 ca_2 901 (fun _ => 0)), (zaI q_3 ca_4 901 (fun _ => 0)), (zaI q_5 ca_6 6 (fun _ => 0)), (zaI q_7 ca_8 64 (fun _ => 0)), (zaI q_9 ca_10 9 (fun _ => 0))] H := hP
  have hD : va_D A [(zo14irriiiiiirriinnnnlniiii m0 0 q_1 q_3 0 0 0 0 0 0 q_5 q_7 0 0 0 0 0 0 0), (zaI q_1 ca_2 901 (fun _ => 0)), (zaI q_3 ca_4 901 (fun _ => 0)), (zaI q_5 ca_6 6 (fun _ => 0)), (zaI q_7 ca_8 64 (fun _ => 0)), (zaI q_9 ca_10 9 (fun _ => 0))] := hD
  have hK : va_K (dC, dI) vwCl [(ca_2, .int), (ca_4, .int), (ca_6, .int), (ca_8, .boolean), (ca_10, .int)] s := hK
  refine W.widen (k := 5) (n := 1881) (by omega) (by omega) ?_
  refine va_putF (D := (dC, dI)) (ci := 14) (v := .ref q_9) (ty := .array .int) (C := RX12) (T := TX12) (N := 23) hx hb hts kc_modelInit_4 tyX12 tyX12_ok nmX12 hown hK hP hD hS 0 rfl rfl 13 (by decide) (hts (.fieldLink RX12 25 "MistHeapsModel" "goes" "[I") kc_modelInit_10) (fun _ h9 => h9) rfl hin rfl (by decide +kernel) rfl rfl (Nat.le_of_ble_eq_true rfl) dX12_init_43 (fun H locs hP hD hS => ?_)
  have hP : va_P (dC, dI) vwCl [(zo14irriiiiiirriirnnnlniiii m0 0 q_1 q_3 0 0 0 0 0 0 q_5 q_7 0 0 q_9 0 0 0 0 0), (zaI q_1 ca_2 901 (fun _ => 0)), (zaI q_3 ca_4 901 (fun _ => 0)), (zaI q_5 ca_6 6 (fun _ => 0)), (zaI q_7 ca_8 64 (fun _ => 0)), (zaI q_9 ca_10 9 (fun _ => 0))] H := hP
  have hD : va_D A [(zo14irriiiiiirriirnnnlniiii m0 0 q_1 q_3 0 0 0 0 0 0 q_5 q_7 0 0 q_9 0 0 0 0 0), (zaI q_1 ca_2 901 (fun _ => 0)), (zaI q_3 ca_4 901 (fun _ => 0)), (zaI q_5 ca_6 6 (fun _ => 0)), (zaI q_7 ca_8 64 (fun _ => 0)), (zaI q_9 ca_10 9 (fun _ => 0))] := hD
  refine lv_aload_n hx hb dX12_init_46 rfl (lv_at hl 0 rfl) ?_
  refine lv_bipush (v := 36) hx hb dX12_init_47 (by decide) ?_
  refine va_newa (atype := .long) (ty := .long) (N' := 36) (a0 := (36, .inr (.inl (fun _ => 0)))) hx hb (hts (.arrayClass .long) kc_modelInit_11) rfl hK hP hD hS hA (fun _ => rfl) (by decide) (by decide) (by decide) (Nat.le_of_ble_eq_true rfl) (Nat.le_of_ble_eq_true rfl) dX12_init_49 (fun q_11 ca_12 H hK hP hD hS => ?_)
  have hP : va_P (dC, dI) vwCl [(zo14irriiiiiirriirnnnlniiii m0 0 q_1 q_3 0 0 0 0 0 0 q_5 q_7 0 0 q_9 0 0 0 0 0), (zaI q_1 ca_2 901 (fun _ => 0)), (zaI q_3 ca_4 901 (fun _ => 0)), (zaI q_5 ca_6 6 (fun _ => 0)), (zaI q_7 ca_8 64 (fun _ => 0)), (zaI q_9 ca_10 9 (fun _ => 0)), (zaL q_11 ca_12 36 (fun _ => 0))] H := hP
  have hD : va_D A [(zo14irriiiiiirriirnnnlniiii m0 0 q_1 q_3 0 0 0 0 0 0 q_5 q_7 0 0 q_9 0 0 0 0 0), (zaI q_1 ca_2 901 (fun _ => 0)), (zaI q_3 ca_4 901 (fun _ => 0)), (zaI q_5 ca_6 6 (fun _ => 0)), (zaI q_7 ca_8 64 (fun _ => 0)), (zaI q_9 ca_10 9 (fun _ => 0)), (zaL q_11 ca_12 36 (fun _ => 0))] := hD
  have hK : va_K (dC, dI) vwCl [(ca_2, .int), (ca_4, .int), (ca_6, .int), (ca_8, .boolean), (ca_10, .int), (ca_12, .long)] s := hK
  refine W.widen (k := 6) (n := 1917) (by omega) (by omega) ?_
  refine va_putF (D := (dC, dI)) (ci := 14) (v := .ref q_11) (ty := .array .long) (C := RX12) (T := TX12) (N := 23) hx hb hts kc_modelInit_4 tyX12 tyX12_ok nmX12 hown hK hP hD hS 0 rfl rfl 14 (by decide) (hts (.fieldLink RX12 28 "MistHeapsModel" "often" "[J") kc_modelInit_12) (fun _ h9 => h9) rfl hin rfl (by decide +kernel) rfl rfl (Nat.le_of_ble_eq_true rfl) dX12_init_51 (fun H locs hP hD hS => ?_)
  have hP : va_P (dC, dI) vwCl [(zo14irriiiiiirriirrnnlniiii m0 0 q_1 q_3 0 0 0 0 0 0 q_5 q_7 0 0 q_9 q_11 0 0 0 0 0), (zaI q_1 ca_2 901 (fun _ => 0)), (zaI q_3 ca_4 901 (fun _ => 0)), (zaI q_5 ca_6 6 (fun _ => 0)), (zaI q_7 ca_8 64 (fun _ => 0)), (zaI q_9 ca_10 9 (fun _ => 0)), (zaL q_11 ca_12 36 (fun _ => 0))] H := hP
  have hD : va_D A [(zo14irriiiiiirriirrnnlniiii m0 0 q_1 q_3 0 0 0 0 0 0 q_5 q_7 0 0 q_9 q_11 0 0 0 0 0), (zaI q_1 ca_2 901 (fun _ => 0)), (zaI q_3 ca_4 901 (fun _ => 0)), (zaI q_5 ca_6 6 (fun _ => 0)), (zaI q_7 ca_8 64 (fun _ => 0)), (zaI q_9 ca_10 9 (fun _ => 0)), (zaL q_11 ca_12 36 (fun _ => 0))] := hD
  refine lv_aload_n hx hb dX12_init_54 rfl (lv_at hl 0 rfl) ?_
  refine lv_bipush (v := 36) hx hb dX12_init_55 (by decide) ?_
  refine va_newa (atype := .long) (ty := .long) (N' := 36) (a0 := (36, .inr (.inl (fun _ => 0)))) hx hb (hts (.arrayClass .long) kc_modelInit_11) rfl hK hP hD hS hA (fun _ => rfl) (by decide) (by decide) (by decide) (Nat.le_of_ble_eq_true rfl) (Nat.le_of_ble_eq_true rfl) dX12_init_57 (fun q_13 ca_14 H hK hP hD hS => ?_)
  have hP : va_P (dC, dI) vwCl [(zo14irriiiiiirriirrnnlniiii m0 0 q_1 q_3 0 0 0 0 0 0 q_5 q_7 0 0 q_9 q_11 0 0 0 0 0), (zaI q_1 ca_2 901 (fun _ => 0)), (zaI q_3 ca_4 901 (fun _ => 0)), (zaI q_5 ca_6 6 (fun _ => 0)), (zaI q_7 ca_8 64 (fun _ => 0)), (zaI q_9 ca_10 9 (fun _ => 0)), (zaL q_11 ca_12 36 (fun _ => 0)), (zaL q_13 ca_14 36 (fun _ => 0))] H := hP
  have hD : va_D A [(zo14irriiiiiirriirrnnlniiii m0 0 q_1 q_3 0 0 0 0 0 0 q_5 q_7 0 0 q_9 q_11 0 0 0 0 0), (zaI q_1 ca_2 901 (fun _ => 0)), (zaI q_3 ca_4 901 (fun _ => 0)), (zaI q_5 ca_6 6 (fun _ => 0)), (zaI q_7 ca_8 64 (fun _ => 0)), (zaI q_9 ca_10 9 (fun _ => 0)), (zaL q_11 ca_12 36 (fun _ => 0)), (zaL q_13 ca_14 36 (fun _ => 0))] := hD
  have hK : va_K (dC, dI) vwCl [(ca_2, .int), (ca_4, .int), (ca_6, .int), (ca_8, .boolean), (ca_10, .int), (ca_12, .long), (ca_14, .long)] s := hK
  refine W.widen (k := 7) (n := 1953) (by omega) (by omega) ?_
  refine va_putF (D := (dC, dI)) (ci := 14) (v := .ref q_13) (ty := .array .long) (C := RX12) (T := TX12) (N := 23) hx hb hts kc_modelInit_4 tyX12 tyX12_ok nmX12 hown hK hP hD hS 0 rfl rfl 15 (by decide) (hts (.fieldLink RX12 32 "MistHeapsModel" "then" "[J") kc_modelInit_13) (fun _ h9 => h9) rfl hin rfl (by decide +kernel) rfl rfl (Nat.le_of_ble_eq_true rfl) dX12_init_59 (fun H locs hP hD hS => ?_)
  have hP : va_P (dC, dI) vwCl [(zo14irriiiiiirriirrrnlniiii m0 0 q_1 q_3 0 0 0 0 0 0 q_5 q_7 0 0 q_9 q_11 q_13 0 0 0 0 0), (zaI q_1 ca_2 901 (fun _ => 0)), (zaI q_3 ca_4 901 (fun _ => 0)), (zaI q_5 ca_6 6 (fun _ => 0)), (zaI q_7 ca_8 64 (fun _ => 0)), (zaI q_9 ca_10 9 (fun _ => 0)), (zaL q_11 ca_12 36 (fun _ => 0)), (zaL q_13 ca_14 36 (fun _ => 0))] H := hP
  have hD : va_D A [(zo14irriiiiiirriirrrnlniiii m0 0 q_1 q_3 0 0 0 0 0 0 q_5 q_7 0 0 q_9 q_11 q_13 0 0 0 0 0), (zaI q_1 ca_2 901 (fun _ => 0)), (zaI q_3 ca_4 901 (fun _ => 0)), (zaI q_5 ca_6 6 (fun _ => 0)), (zaI q_7 ca_8 64 (fun _ => 0)), (zaI q_9 ca_10 9 (fun _ => 0)), (zaL q_11 ca_12 36 (fun _ => 0)), (zaL q_13 ca_14 36 (fun _ => 0))] := hD
  refine lv_aload_n hx hb dX12_init_62 rfl (lv_at hl 0 rfl) ?_
  refine lv_bipush (v := 36) hx hb dX12_init_63 (by decide) ?_
  refine va_newa (atype := .int) (ty := .int) (N' := 36) (a0 := (36, .inl (fun _ => 0))) hx hb (hts (.arrayClass .int) kc_modelInit_3) rfl hK hP hD hS hA (fun _ => rfl) (by decide) (by decide) (by decide) (Nat.le_of_ble_eq_true rfl) (Nat.le_of_ble_eq_true rfl) dX12_init_65 (fun q_15 ca_16 H hK hP hD hS => ?_)
  have hP : va_P (dC, dI) vwCl [(zo14irriiiiiirriirrrnlniiii m0 0 q_1 q_3 0 0 0 0 0 0 q_5 q_7 0 0 q_9 q_11 q_13 0 0 0 0 0), (zaI q_1 ca_2 901 (fun _ => 0)), (zaI q_3 ca_4 901 (fun _ => 0)), (zaI q_5 ca_6 6 (fun _ => 0)), (zaI q_7 ca_8 64 (fun _ => 0)), (zaI q_9 ca_10 9 (fun _ => 0)), (zaL q_11 ca_12 36 (fun _ => 0)), (zaL q_13 ca_14 36 (fun _ => 0)), (zaI q_15 ca_16 36 (fun _ => 0))] H := hP
  have hD : va_D A [(zo14irriiiiiirriirrrnlniiii m0 0 q_1 q_3 0 0 0 0 0 0 q_5 q_7 0 0 q_9 q_11 q_13 0 0 0 0 0), (zaI q_1 ca_2 901 (fun _ => 0)), (zaI q_3 ca_4 901 (fun _ => 0)), (zaI q_5 ca_6 6 (fun _ => 0)), (zaI q_7 ca_8 64 (fun _ => 0)), (zaI q_9 ca_10 9 (fun _ => 0)), (zaL q_11 ca_12 36 (fun _ => 0)), (zaL q_13 ca_14 36 (fun _ => 0)), (zaI q_15 ca_16 36 (fun _ => 0))] := hD
  have hK : va_K (dC, dI) vwCl [(ca_2, .int), (ca_4, .int), (ca_6, .int), (ca_8, .boolean), (ca_10, .int), (ca_12, .long), (ca_14, .long), (ca_16, .int)] s := hK
  refine W.widen (k := 8) (n := 1989) (by omega) (by omega) ?_
  refine va_putF (D := (dC, dI)) (ci := 14) (v := .ref q_15) (ty := .array .int) (C := RX12) (T := TX12) (N := 23) hx hb hts kc_modelInit_4 tyX12 tyX12_ok nmX12 hown hK hP hD hS 0 rfl rfl 16 (by decide) (hts (.fieldLink RX12 35 "MistHeapsModel" "drifts" "[I") kc_modelInit_14) (fun _ h9 => h9) rfl hin rfl (by decide +kernel) rfl rfl (Nat.le_of_ble_eq_true rfl) dX12_init_67 (fun H locs hP hD hS => ?_)
  have hP : va_P (dC, dI) vwCl [(zo14irriiiiiirriirrrrlniiii m0 0 q_1 q_3 0 0 0 0 0 0 q_5 q_7 0 0 q_9 q_11 q_13 q_15 0 0 0 0 0), (zaI q_1 ca_2 901 (fun _ => 0)), (zaI q_3 ca_4 901 (fun _ => 0)), (zaI q_5 ca_6 6 (fun _ => 0)), (zaI q_7 ca_8 64 (fun _ => 0)), (zaI q_9 ca_10 9 (fun _ => 0)), (zaL q_11 ca_12 36 (fun _ => 0)), (zaL q_13 ca_14 36 (fun _ => 0)), (zaI q_15 ca_16 36 (fun _ => 0))] H := hP
  have hD : va_D A [(zo14irriiiiiirriirrrrlniiii m0 0 q_1 q_3 0 0 0 0 0 0 q_5 q_7 0 0 q_9 q_11 q_13 q_15 0 0 0 0 0), (zaI q_1 ca_2 901 (fun _ => 0)), (zaI q_3 ca_4 901 (fun _ => 0)), (zaI q_5 ca_6 6 (fun _ => 0)), (zaI q_7 ca_8 64 (fun _ => 0)), (zaI q_9 ca_10 9 (fun _ => 0)), (zaL q_11 ca_12 36 (fun _ => 0)), (zaL q_13 ca_14 36 (fun _ => 0)), (zaI q_15 ca_16 36 (fun _ => 0))] := hD
  refine lv_aload_n hx hb dX12_init_70 rfl (lv_at hl 0 rfl) ?_
  refine lv_bipush (v := 20) hx hb dX12_init_71 (by decide) ?_
  refine va_newa (atype := .int) (ty := .int) (N' := 20) (a0 := (20, .inl (fun _ => 0))) hx hb (hts (.arrayClass .int) kc_modelInit_3) rfl hK hP hD hS hA (fun _ => rfl) (by decide) (by decide) (by decide) (Nat.le_of_ble_eq_true rfl) (Nat.le_of_ble_eq_true rfl) dX12_init_73 (fun q_17 ca_18 H hK hP hD hS => ?_)
  have hP : va_P (dC, dI) vwCl [(zo14irriiiiiirriirrrrlniiii m0 0 q_1 q_3 0 0 0 0 0 0 q_5 q_7 0 0 q_9 q_11 q_13 q_15 0 0 0 0 0), (zaI q_1 ca_2 901 (fun _ => 0)), (zaI q_3 ca_4 901 (fun _ => 0)), (zaI q_5 ca_6 6 (fun _ => 0)), (zaI q_7 ca_8 64 (fun _ => 0)), (zaI q_9 ca_10 9 (fun _ => 0)), (zaL q_11 ca_12 36 (fun _ => 0)), (zaL q_13 ca_14 36 (fun _ => 0)), (zaI q_15 ca_16 36 (fun _ => 0)), (zaI q_17 ca_18 20 (fun _ => 0))] H := hP
  have hD : va_D A [(zo14irriiiiiirriirrrrlniiii m0 0 q_1 q_3 0 0 0 0 0 0 q_5 q_7 0 0 q_9 q_11 q_13 q_15 0 0 0 0 0), (zaI q_1 ca_2 901 (fun _ => 0)), (zaI q_3 ca_4 901 (fun _ => 0)), (zaI q_5 ca_6 6 (fun _ => 0)), (zaI q_7 ca_8 64 (fun _ => 0)), (zaI q_9 ca_10 9 (fun _ => 0)), (zaL q_11 ca_12 36 (fun _ => 0)), (zaL q_13 ca_14 36 (fun _ => 0)), (zaI q_15 ca_16 36 (fun _ => 0)), (zaI q_17 ca_18 20 (fun _ => 0))] := hD
  have hK : va_K (dC, dI) vwCl [(ca_2, .int), (ca_4, .int), (ca_6, .int), (ca_8, .boolean), (ca_10, .int), (ca_12, .long), (ca_14, .long), (ca_16, .int), (ca_18, .int)] s := hK
  refine W.widen (k := 9) (n := 2009) (by omega) (by omega) ?_
  refine va_putF (D := (dC, dI)) (ci := 14) (v := .ref q_17) (ty := .array .int) (C := RX12) (T := TX12) (N := 23) hx hb hts kc_modelInit_4 tyX12 tyX12_ok nmX12 hown hK hP hD hS 0 rfl rfl 18 (by decide) (hts (.fieldLink RX12 38 "MistHeapsModel" "bodies" "[I") kc_modelInit_15) (fun _ h9 => h9) rfl hin rfl (by decide +kernel) rfl rfl (Nat.le_of_ble_eq_true rfl) dX12_init_75 (fun H locs hP hD hS => ?_)
  have hP : va_P (dC, dI) vwCl [(zo14irriiiiiirriirrrrlriiii m0 0 q_1 q_3 0 0 0 0 0 0 q_5 q_7 0 0 q_9 q_11 q_13 q_15 0 q_17 0 0 0 0), (zaI q_1 ca_2 901 (fun _ => 0)), (zaI q_3 ca_4 901 (fun _ => 0)), (zaI q_5 ca_6 6 (fun _ => 0)), (zaI q_7 ca_8 64 (fun _ => 0)), (zaI q_9 ca_10 9 (fun _ => 0)), (zaL q_11 ca_12 36 (fun _ => 0)), (zaL q_13 ca_14 36 (fun _ => 0)), (zaI q_15 ca_16 36 (fun _ => 0)), (zaI q_17 ca_18 20 (fun _ => 0))] H := hP
  have hD : va_D A [(zo14irriiiiiirriirrrrlriiii m0 0 q_1 q_3 0 0 0 0 0 0 q_5 q_7 0 0 q_9 q_11 q_13 q_15 0 q_17 0 0 0 0), (zaI q_1 ca_2 901 (fun _ => 0)), (zaI q_3 ca_4 901 (fun _ => 0)), (zaI q_5 ca_6 6 (fun _ => 0)), (zaI q_7 ca_8 64 (fun _ => 0)), (zaI q_9 ca_10 9 (fun _ => 0)), (zaL q_11 ca_12 36 (fun _ => 0)), (zaL q_13 ca_14 36 (fun _ => 0)), (zaI q_15 ca_16 36 (fun _ => 0)), (zaI q_17 ca_18 20 (fun _ => 0))] := hD
  refine lv_aload_n hx hb dX12_init_78 rfl (lv_at hl 0 rfl) ?_
  refine va_get (D := (dC, dI)) (ci := 14) (v := .ref q_1) (C := RX12) (T := TX12) (N := 23) hx hb hts kc_modelInit_4 hown hK hP 0 rfl rfl 1 (by decide) (hts (.fieldLink RX12 9 "MistHeapsModel" "s" "[I") kc_modelInit_5) (fun _ h9 => h9) rfl dX12_init_79 ?_
  refine lv_iconst (v := 5) hx hb dX12_init_82 (by decide) ?_
  refine lv_iconst (v := (-1)) hx hb dX12_init_83 (by decide) ?_
  refine va_iast hx hb hK hP hD hS 1 0 rfl rfl (vp_in_nI (n := 5) (N := 901) (by omega) (by omega)) dX12_init_84 (fun H locs hP hD hS => ?_)
  have hP : va_P (dC, dI) vwCl [(zo14irriiiiiirriirrrrlriiii m0 0 q_1 q_3 0 0 0 0 0 0 q_5 q_7 0 0 q_9 q_11 q_13 q_15 0 q_17 0 0 0 0), (zaI q_1 ca_2 901 (upd (fun _ => 0) 5 (-1))), (zaI q_3 ca_4 901 (fun _ => 0)), (zaI q_5 ca_6 6 (fun _ => 0)), (zaI q_7 ca_8 64 (fun _ => 0)), (zaI q_9 ca_10 9 (fun _ => 0)), (zaL q_11 ca_12 36 (fun _ => 0)), (zaL q_13 ca_14 36 (fun _ => 0)), (zaI q_15 ca_16 36 (fun _ => 0)), (zaI q_17 ca_18 20 (fun _ => 0))] H := hP
  have hD : va_D A [(zo14irriiiiiirriirrrrlriiii m0 0 q_1 q_3 0 0 0 0 0 0 q_5 q_7 0 0 q_9 q_11 q_13 q_15 0 q_17 0 0 0 0), (zaI q_1 ca_2 901 (upd (fun _ => 0) 5 (-1))), (zaI q_3 ca_4 901 (fun _ => 0)), (zaI q_5 ca_6 6 (fun _ => 0)), (zaI q_7 ca_8 64 (fun _ => 0)), (zaI q_9 ca_10 9 (fun _ => 0)), (zaL q_11 ca_12 36 (fun _ => 0)), (zaL q_13 ca_14 36 (fun _ => 0)), (zaI q_15 ca_16 36 (fun _ => 0)), (zaI q_17 ca_18 20 (fun _ => 0))] := hD
  rw [hQ]
  have hP9 := hP.sub (ws' := [(zo14irriiiiiirriirrrrlriiii m0 0 q_1 q_3 0 0 0 0 0 0 q_5 q_7 0 0 q_9 q_11 q_13 q_15 0 q_17 0 0 0 0), (zaI q_1 ca_2 901 (upd (fun _ => 0) 5 (-1))), (zaI q_3 ca_4 901 (fun _ => 0)), (zaI q_5 ca_6 6 (fun _ => 0)), (zaI q_7 ca_8 64 (fun _ => 0)), (zaI q_9 ca_10 9 (fun _ => 0)), (zaL q_11 ca_12 36 (fun _ => 0)), (zaL q_13 ca_14 36 (fun _ => 0)), (zaI q_15 ca_16 36 (fun _ => 0)), (zaI q_17 ca_18 20 (fun _ => 0))]) [0, 1, 2, 3, 4, 5, 6, 7, 8, 9] rfl
  have hD9 := hD.sub (ws' := [(zo14irriiiiiirriirrrrlriiii m0 0 q_1 q_3 0 0 0 0 0 0 q_5 q_7 0 0 q_9 q_11 q_13 q_15 0 q_17 0 0 0 0), (zaI q_1 ca_2 901 (upd (fun _ => 0) 5 (-1))), (zaI q_3 ca_4 901 (fun _ => 0)), (zaI q_5 ca_6 6 (fun _ => 0)), (zaI q_7 ca_8 64 (fun _ => 0)), (zaI q_9 ca_10 9 (fun _ => 0)), (zaL q_11 ca_12 36 (fun _ => 0)), (zaL q_13 ca_14 36 (fun _ => 0)), (zaI q_15 ca_16 36 (fun _ => 0)), (zaI q_17 ca_18 20 (fun _ => 0))]) [0, 1, 2, 3, 4, 5, 6, 7, 8, 9] (by decide) rfl
  have hK9 := hK.sub (tys' := [(ca_2, .int), (ca_4, .int), (ca_6, .int), (ca_8, .boolean), (ca_10, .int), (ca_12, .long), (ca_14, .long), (ca_16, .int), (ca_18, .int)]) [0, 1, 2, 3, 4, 5, 6, 7, 8] rfl
  exact W.vret hx hb hr (fun tQ htQ hWQ => ⟨⟨(), rfl, trivial, q_1, q_3, q_5, q_7, q_9, q_11, q_13, q_15, q_17, ca_2, ca_4, ca_6, ca_8, ca_10, ca_12, ca_14, ca_16, ca_18, by rw [htQ]; exact hP9, va_K.moved hWQ.alike hK9, hD9⟩, hS.F htQ⟩) hS.2.2 dX12_init_85

theorem kc_classInit_0 : (.methodLink RX11 5 objectInit : Cond) ∈ wsX11_init := kc_of 98 rfl rfl rfl
theorem kc_classInit_1 : (.instanceMethod objectInit : Cond) ∈ wsX11_init := kc_of 99 rfl rfl rfl
theorem kc_classInit_2 : (.code objectInit ⟨#[0xb1]⟩ 1 none : Cond) ∈ wsX11_init := kc_of 100 rfl rfl rfl
theorem kc_classInit_3 : ∀ w ∈ wsX80, w ∈ wsX11_init := fun w h => List.mem_cons_of_mem _ (gin_wsX80 w h)
theorem kc_classInit_4 : (.classLink RX11 11 RX8 : Cond) ∈ wsX11_init := kc_of 101 rfl rfl rfl
theorem kc_classInit_5 : (.instantiable RX8 14 : Cond) ∈ wsX11_init := kc_of 102 rfl rfl rfl
theorem kc_classInit_6 : (.initialized RX8 : Cond) ∈ wsX11_init := kc_of 64 rfl rfl rfl
theorem kc_classInit_7 : (.methodLink RX11 13 yX8_init : Cond) ∈ wsX11_init := kc_of 103 rfl rfl rfl
theorem kc_classInit_8 : (.instanceMethod yX8_init : Cond) ∈ wsX11_init := kc_of 104 rfl rfl rfl
theorem kc_classInit_9 : ∀ w ∈ wsX110, w ∈ wsX11_init := fun w h => List.mem_cons_of_mem _ (gin_wsX110 w h)
theorem kc_classInit_10 : (.fieldLink RX11 14 "MistHeaps" "scene" "LMistHeaps$Scene;" : Cond) ∈ wsX11_init := kc_of 328 rfl rfl rfl
theorem kc_classInit_11 : (.fieldLink RX11 18 "MistHeaps" "kept" "LMistHeaps$Scene;" : Cond) ∈ wsX11_init := kc_of 329 rfl rfl rfl
theorem kc_classInit_12 : (.fieldLink RX11 21 "MistHeaps" "isKept" "Z" : Cond) ∈ wsX11_init := kc_of 330 rfl rfl rfl
theorem kc_classInit_13 : ∀ w ∈ wsX50, w ∈ wsX11_init := fun w h => List.mem_cons_of_mem _ (gin_wsX50 w h)
theorem kc_classInit_14 : (.classLink RX11 25 RX5 : Cond) ∈ wsX11_init := kc_of 214 rfl rfl rfl
theorem kc_classInit_15 : (.instantiable RX5 11 : Cond) ∈ wsX11_init := kc_of 108 rfl rfl rfl
theorem kc_classInit_16 : (.initialized RX5 : Cond) ∈ wsX11_init := kc_of 65 rfl rfl rfl
theorem kc_classInit_17 : (.methodLink RX11 27 yX5_init : Cond) ∈ wsX11_init := kc_of 215 rfl rfl rfl
theorem kc_classInit_18 : (.instanceMethod yX5_init : Cond) ∈ wsX11_init := kc_of 110 rfl rfl rfl
theorem kc_classInit_19 : (.fieldLink RX11 28 "MistHeaps" "blank" "LMistHeaps$Hill;" : Cond) ∈ wsX11_init := kc_of 331 rfl rfl rfl
theorem kc_classInit_20 : ∀ w ∈ wsX20, w ∈ wsX11_init := fun w h => List.mem_cons_of_mem _ (gin_wsX20 w h)
theorem kc_classInit_21 : (.classLink RX11 32 RX2 : Cond) ∈ wsX11_init := kc_of 216 rfl rfl rfl
theorem kc_classInit_22 : (.instantiable RX2 4 : Cond) ∈ wsX11_init := kc_of 217 rfl rfl rfl
theorem kc_classInit_23 : (.initialized RX2 : Cond) ∈ wsX11_init := kc_of 66 rfl rfl rfl
theorem kc_classInit_24 : (.methodLink RX11 34 yX2_init : Cond) ∈ wsX11_init := kc_of 218 rfl rfl rfl
theorem kc_classInit_25 : (.instanceMethod yX2_init : Cond) ∈ wsX11_init := kc_of 219 rfl rfl rfl
theorem kc_classInit_26 : (.fieldLink RX11 35 "MistHeaps" "goings" "LMistHeaps$Goings;" : Cond) ∈ wsX11_init := kc_of 332 rfl rfl rfl
theorem kc_classInit_27 : ∀ w ∈ wsX00, w ∈ wsX11_init := fun w h => List.mem_cons_of_mem _ (gin_wsX00 w h)
theorem kc_classInit_28 : (.classLink RX11 39 RX0 : Cond) ∈ wsX11_init := kc_of 274 rfl rfl rfl
theorem kc_classInit_29 : (.instantiable RX0 5 : Cond) ∈ wsX11_init := kc_of 275 rfl rfl rfl
theorem kc_classInit_30 : (.initialized RX0 : Cond) ∈ wsX11_init := kc_of 68 rfl rfl rfl
theorem kc_classInit_31 : (.methodLink RX11 41 yX0_init : Cond) ∈ wsX11_init := kc_of 276 rfl rfl rfl
theorem kc_classInit_32 : (.instanceMethod yX0_init : Cond) ∈ wsX11_init := kc_of 277 rfl rfl rfl
theorem kc_classInit_33 : (.fieldLink RX11 42 "MistHeaps" "chances" "LMistHeaps$Chances;" : Cond) ∈ wsX11_init := kc_of 333 rfl rfl rfl
theorem kc_classInit_34 : ∀ w ∈ wsJx4a65c0, w ∈ wsX11_init := fun w h => List.mem_cons_of_mem _ (gin_wsJx4a65c0 w h)
theorem kc_classInit_35 : (.classLink RX11 46 RJx4a65c : Cond) ∈ wsX11_init := kc_of 302 rfl rfl rfl
theorem kc_classInit_36 : (.instantiable RJx4a65c 3 : Cond) ∈ wsX11_init := kc_of 303 rfl rfl rfl
theorem kc_classInit_37 : (.initialized RJx4a65c : Cond) ∈ wsX11_init := kc_of 71 rfl rfl rfl
theorem kc_classInit_38 : (.methodLink RX11 48 yJx4a65c_init_da8c8 : Cond) ∈ wsX11_init := kc_of 304 rfl rfl rfl
theorem kc_classInit_39 : (.instanceMethod yJx4a65c_init_da8c8 : Cond) ∈ wsX11_init := kc_of 305 rfl rfl rfl
theorem kc_classInit_40 : (.fieldLink RX11 49 "MistHeaps" "bodies" "Ljava/util/ArrayList;" : Cond) ∈ wsX11_init := kc_of 334 rfl rfl rfl
set_option maxHeartbeats 4000000 in
set_option maxRecDepth 100000 in
theorem c_classInit (l : Launch) (dC : Nat → ClassId) (dI : Nat → Nat → Nat) (bS : Nat) (h0 : Nat) (sz : Nat) : Met l yX11_init wsX11_init ({ frames := 4, cells := 47, slots := 1190, locals := 72 } : Room) (va_Pc [.ref h0] (fun U => U.heap.size = sz ∧ va_P (dC, dI) vwCl [(zo13nninnnn h0 0)] U.heap ∧ va_K (dC, dI) vwCl [] U ∧ va_D (fun _ => True) [(zo13nninnnn h0 0)] ∧ Gc bS (va_A [(zo13nninnnn h0 0)] sz) U)) (va_Qv (fun (u : Unit) => match u with | () => True) (fun (u : Unit) (t : State) => match u with | () => ∃ sc : Nat, ∃ aTp : Nat, ∃ aHs : Nat, ∃ aWk : Nat, ∃ aBk : Nat, ∃ aFc : Nat, ∃ aHl : Nat, ∃ cTp : ClassId, ∃ cHs : ClassId, ∃ cWk : ClassId, ∃ cBk : ClassId, ∃ cFc : ClassId, ∃ bW : Nat, ∃ bA : Nat, ∃ bE : Nat, ∃ bC : Nat, ∃ cbW : ClassId, ∃ cbA : ClassId, ∃ cbE : ClassId, ∃ cbC : ClassId, ∃ kp : Nat, ∃ kTp : Nat, ∃ kHs : Nat, ∃ kWk : Nat, ∃ kBk : Nat, ∃ kFc : Nat, ∃ kHl : Nat, ∃ kcTp : ClassId, ∃ kcHs : ClassId, ∃ kcWk : ClassId, ∃ kcBk : ClassId, ∃ kcFc : ClassId, ∃ kbW : Nat, ∃ kbA : Nat, ∃ kbE : Nat, ∃ kbC : Nat, ∃ kcbW : ClassId, ∃ kcbA : ClassId, ∃ kcbE : ClassId, ∃ kcbC : ClassId, ∃ bl : Nat, ∃ eW : Nat, ∃ eA : Nat, ∃ eE : Nat, ∃ eC : Nat, ∃ ceW : ClassId, ∃ ceA : ClassId, ∃ ceE : ClassId, ∃ ceC : ClassId, ∃ go : Nat, ∃ gR : Nat, ∃ gO : Nat, ∃ gS : Nat, ∃ cR : ClassId, ∃ cO : ClassId, ∃ ch : Nat, ∃ dr : Nat, ∃ tO : Nat, ∃ hO : Nat, ∃ rt : Nat → Nat, ∃ rh : Nat → Nat, ∃ cD : ClassId, ∃ cTO : ClassId, ∃ cHO : ClassId, ∃ cT : ClassId, ∃ cH : ClassId, ∃ bo : Nat, va_P (dC, dI) vwCl [(zo13rrirrrr h0 sc kp 0 bl go ch bo), (zo10ririliiriririr sc aTp 0 aHl 0 0 0 0 aHs 0 aWk 0 aBk 0 aFc), (zaI aTp cTp 100 (fun _ => 0)), (zaR aHs cHs 8 (fun _ => none)), (zaI aWk cWk 6 (fun _ => 0)), (zaI aBk cBk 12 (fun _ => 0)), (zaI aFc cFc 6 (fun _ => 0)), (zo7iirrrriniii aHl 3 0 bW bA bE bC 0 0 0 0), (zaI bW cbW 10 (fun _ => 0)), (zaI bA cbA 10 (fun _ => 0)), (zaI bE cbE 10 (fun _ => 0)), (zaI bC cbC 100 (fun _ => 0)), (zo10ririliiriririr kp kTp 0 kHl 0 0 0 0 kHs 0 kWk 0 kBk 0 kFc), (zaI kTp kcTp 100 (fun _ => 0)), (zaR kHs kcHs 8 (fun _ => none)), (zaI kWk kcWk 6 (fun _ => 0)), (zaI kBk kcBk 12 (fun _ => 0)), (zaI kFc kcFc 6 (fun _ => 0)), (zo7iirrrriniii kHl 3 0 kbW kbA kbE kbC 0 0 0 0), (zaI kbW kcbW 10 (fun _ => 0)), (zaI kbA kcbA 10 (fun _ => 0)), (zaI kbE kcbE 10 (fun _ => 0)), (zaI kbC kcbC 100 (fun _ => 0)), (zo7iirrrriniii bl 3 0 eW eA eE eC 0 0 0 0), (zaI eW ceW 10 (fun _ => 0)), (zaI eA ceA 10 (fun _ => 0)), (zaI eE ceE 10 (fun _ => 0)), (zaI eC ceC 100 (fun _ => 0)), (zo4rrir go gR gO 0 gS), (zaI gR cR 8 (fun _ => 0)), (zaI gO cO 8 (fun _ => 0)), (zo5iiii gS 0 0 0 0), (zo2lirrr ch 0 0 dr tO hO), (zaI dr cD 36 (fun _ => 0)), (zaR tO cTO 3 (fun i => if i < 3 then some (rt i) else none)), (zaL (rt 0) cT 36 (fun _ => 0)), (zaL (rt 1) cT 36 (fun _ => 0)), (zaL (rt 2) cT 36 (fun _ => 0)), (zaR hO cHO 8 (fun i => if i < 8 then some (rh i) else none)), (zaI (rh 0) cH 36 (fun _ => 0)), (zaI (rh 1) cH 36 (fun _ => 0)), (zaI (rh 2) cH 36 (fun _ => 0)), (zaI (rh 3) cH 36 (fun _ => 0)), (zaI (rh 4) cH 36 (fun _ => 0)), (zaI (rh 5) cH 36 (fun _ => 0)), (zaI (rh 6) cH 36 (fun _ => 0)), (zaI (rh 7) cH 36 (fun _ => 0)), (zo1iri bo 0 bS 0)] t.heap ∧ va_K (dC, dI) vwCl [(cTp, .int), (cHs, .object "MistHeaps$Heap"), (cWk, .int), (cBk, .int), (cFc, .int), (cbW, .int), (cbA, .int), (cbE, .int), (cbC, .int), (kcTp, .int), (kcHs, .object "MistHeaps$Heap"), (kcWk, .int), (kcBk, .int), (kcFc, .int), (kcbW, .int), (kcbA, .int), (kcbE, .int), (kcbC, .int), (ceW, .int), (ceA, .int), (ceE, .int), (ceC, .int), (cR, .int), (cO, .int), (cD, .int), (cTO, .array .long), (cT, .long), (cT, .long), (cT, .long), (cHO, .array .int), (cH, .int), (cH, .int), (cH, .int), (cH, .int), (cH, .int), (cH, .int), (cH, .int), (cH, .int)] t ∧ va_D (va_A [(zo13nninnnn h0 0)] sz) [(zo13rrirrrr h0 sc kp 0 bl go ch bo), (zo10ririliiriririr sc aTp 0 aHl 0 0 0 0 aHs 0 aWk 0 aBk 0 aFc), (zaI aTp cTp 100 (fun _ => 0)), (zaR aHs cHs 8 (fun _ => none)), (zaI aWk cWk 6 (fun _ => 0)), (zaI aBk cBk 12 (fun _ => 0)), (zaI aFc cFc 6 (fun _ => 0)), (zo7iirrrriniii aHl 3 0 bW bA bE bC 0 0 0 0), (zaI bW cbW 10 (fun _ => 0)), (zaI bA cbA 10 (fun _ => 0)), (zaI bE cbE 10 (fun _ => 0)), (zaI bC cbC 100 (fun _ => 0)), (zo10ririliiriririr kp kTp 0 kHl 0 0 0 0 kHs 0 kWk 0 kBk 0 kFc), (zaI kTp kcTp 100 (fun _ => 0)), (zaR kHs kcHs 8 (fun _ => none)), (zaI kWk kcWk 6 (fun _ => 0)), (zaI kBk kcBk 12 (fun _ => 0)), (zaI kFc kcFc 6 (fun _ => 0)), (zo7iirrrriniii kHl 3 0 kbW kbA kbE kbC 0 0 0 0), (zaI kbW kcbW 10 (fun _ => 0)), (zaI kbA kcbA 10 (fun _ => 0)), (zaI kbE kcbE 10 (fun _ => 0)), (zaI kbC kcbC 100 (fun _ => 0)), (zo7iirrrriniii bl 3 0 eW eA eE eC 0 0 0 0), (zaI eW ceW 10 (fun _ => 0)), (zaI eA ceA 10 (fun _ => 0)), (zaI eE ceE 10 (fun _ => 0)), (zaI eC ceC 100 (fun _ => 0)), (zo4rrir go gR gO 0 gS), (zaI gR cR 8 (fun _ => 0)), (zaI gO cO 8 (fun _ => 0)), (zo5iiii gS 0 0 0 0), (zo2lirrr ch 0 0 dr tO hO), (zaI dr cD 36 (fun _ => 0)), (zaR tO cTO 3 (fun i => if i < 3 then some (rt i) else none)), (zaL (rt 0) cT 36 (fun _ => 0)), (zaL (rt 1) cT 36 (fun _ => 0)), (zaL (rt 2) cT 36 (fun _ => 0)), (zaR hO cHO 8 (fun i => if i < 8 then some (rh i) else none)), (zaI (rh 0) cH 36 (fun _ => 0)), (zaI (rh 1) cH 36 (fun _ => 0)), (zaI (rh 2) cH 36 (fun _ => 0)), (zaI (rh 3) cH 36 (fun _ => 0)), (zaI (rh 4) cH 36 (fun _ => 0)), (zaI (rh 5) cH 36 (fun _ => 0)), (zaI (rh 6) cH 36 (fun _ => 0)), (zaI (rh 7) cH 36 (fun _ => 0)), (zo1iri bo 0 bS 0)]) (va_A [(zo13nninnnn h0 0)] sz)) 47 1190 (va_A [(zo13nninnnn h0 0)] sz) := by
  refine met_ofQ (cc := cX11_init) (maxL := 1) (ret := none) (by decide) rfl ?_
  intro p e s m args below meth c s₁ Q B hml hv hQ
  obtain ⟨rfl, hsz, hP, hK, hD0, hC⟩ := hv
  have hx := B.exec
  have hb := B.bytes
  have hr := B.returns
  have hts := atoms_spec (ws := wsX11_init) B.pre
  have hown : s.vm.findClass RX11 = some m.cls := findClass_of_methodNamed B.named
  have hlocks := B.notSynchronized
  have hin : meth.name = "<init>" := (name_of_methodNamed B.named B.method).1
  subst hsz
  have hD := hD0.self (sz := s.heap.size)
  generalize hAe : va_A [(zo13nninnnn h0 0)] s.heap.size = A at hD hQ hC ⊢
  have hA : ∀ q : Nat, s.heap.size ≤ q → A q := fun q h => by rw [← hAe]; exact Or.inr h
  have hS : va_S A s.heap s.heap [] := va_S.rf
  have hl := lv_entry [.ref h0] (n := 1) (Nat.le_of_ble_eq_true rfl)
  rw [lg_entry_eq]
  generalize (lg_sl [.ref h0] ++ List.replicate (1 - (lg_sl [.ref h0]).length) Slot.unset).toArray = ls at hl ⊢
  generalize hag : ([.ref h0] : List Value).toArray = args at hts hQ ⊢
  have hl : lv_has ls 1 [(0, .ref h0)] := hl
  obtain ⟨H, hH⟩ : ∃ H : Heap, H = s.heap := ⟨_, rfl⟩
  rw [← hH] at hP
  rw [← hH]
  have hS : va_S A s.heap H [] := by rw [hH]; exact hS
  obtain ⟨locs, hlo⟩ : ∃ L : List Loc, L = [] := ⟨_, rfl⟩
  rw [← hlo] at hS
  rw [← hlo]
  clear hH hlo
  refine lv_aload_n hx hb dX11_init_0 rfl (lv_at hl 0 rfl) ?_
  refine W.objInit hx hb hown (hts (.methodLink RX11 5 objectInit) kc_classInit_0) (hts (.instanceMethod objectInit) kc_classInit_1) (hts (.code objectInit ⟨#[0xb1]⟩ 1 none) kc_classInit_2) rfl (by rw [hml]; exact hl.1) rfl dX11_init_1 (Nat.le_of_ble_eq_true rfl) (Nat.le_of_ble_eq_true rfl) ?_
  refine W.eq (g2 := F0 m 4 ls []) rfl ?_
  refine lv_aload_n hx hb dX11_init_4 rfl (lv_at hl 0 rfl) ?_
  refine va_new (ci := 10) (fs := [.null, .int 0, .null, .int 0, .long 0, .int 0, .int 0, .null, .int 0, .null, .int 0, .null, .int 0, .null]) (C := RX8) (T := TX8) (N := 14) hx hb hts kc_classInit_3 tyX8 tyX8_ok hown (hts (.classLink RX11 11 RX8) kc_classInit_4) (hts (.instantiable RX8 14) kc_classInit_5) (hts (.initialized RX8) kc_classInit_6) hK hP hD hS hA rfl (fun j hj => by rcases (show j = 0 ∨ j = 1 ∨ j = 2 ∨ j = 3 ∨ j = 4 ∨ j = 5 ∨ j = 6 ∨ j = 7 ∨ j = 8 ∨ j = 9 ∨ j = 10 ∨ j = 11 ∨ j = 12 ∨ j = 13 by omega) with rfl | rfl | rfl | rfl | rfl | rfl | rfl | rfl | rfl | rfl | rfl | rfl | rfl | rfl <;> rfl) (Nat.le_of_ble_eq_true rfl) (Nat.le_of_ble_eq_true rfl) dX11_init_5 (fun q_1 H hP hD hS => ?_)
  have hP : va_P (dC, dI) vwCl [(zo13nninnnn h0 0), (zo10niniliinininin q_1 0 0 0 0 0 0 0 0)] H := hP
  have hD : va_D A [(zo13nninnnn h0 0), (zo10niniliinininin q_1 0 0 0 0 0 0 0 0)] := hD
  refine W.widen (k := 1) (n := 14) (by omega) (by omega) ?_
  refine lv_dup hx hb dX11_init_8 rfl ?_
  have hPc := hP.sub (ws' := [(zo10niniliinininin q_1 0 0 0 0 0 0 0 0)]) [1] rfl
  have hDc := hD.sub (ws' := [(zo10niniliinininin q_1 0 0 0 0 0 0 0 0)]) [1] (by decide) rfl
  have hKc := hK.sub (tys' := []) [] rfl
  have hFc := va_free (wc := [(zo10niniliinininin q_1 0 0 0 0 0 0 0 0)]) hD hS hA [1] rfl
  refine va_callv (va_runI (As := []) (rest := [.ref q_1, .ref h0]) ⟨hx, hb, hml, hown, hts⟩ (c_sceneInit l dC dI bS q_1 H.size) (cwI 0 hts ggX11_init_X8_init rfl rfl rfl (hts (.initialized RX8) kc_classInit_6) (hts (.methodLink RX11 13 yX8_init) kc_classInit_7) (hts (.instanceMethod yX8_init) kc_classInit_8) rfl (by decide +kernel) ⟨Nat.le_of_ble_eq_true rfl, Nat.le_of_ble_eq_true rfl⟩) ⟨fun a U g mk q => by obtain ⟨q0, q1, qP, qK, qD, qhC⟩ := q; exact ⟨q0, mvz g mk a q1, mvP g mk a qP, mvK g mk a qK, qD, qhC.mv g mk a⟩, fun U hU hW => ⟨rfl, by rw [hU], by rw [hU]; exact hPc, va_K.moved hW.alike hKc, hDc.weaken (fun _ _ _ _ => trivial), hC.call hS hU hW (fun q h => hFc q h)⟩⟩ rfl rfl hl.1 rfl (lv_room (Nat.le_of_ble_eq_true rfl)) dX11_init_9 ⟨Nat.le_of_ble_eq_true rfl, Nat.le_of_ble_eq_true rfl⟩) hS (fun q _ h => hFc q h) hFc (fun u tC H1 locs htC hvm hw_3 hB hz1 hk1 hS => ?_)
  obtain ⟨⟩ := u
  try dsimp only at hw_3 hB
  obtain ⟨aTp_4, aHs_5, aWk_6, aBk_7, aFc_8, aHl_9, cTp_10, cHs_11, cWk_12, cBk_13, cFc_14, bW_15, bA_16, bE_17, bC_18, cbW_19, cbA_20, cbE_21, cbC_22, hP1, hK1, hD1⟩ := hB
  rw [htC] at hP1
  have hK1 := va_K.moved hvm.symm hK1
  obtain ⟨hP, hD⟩ := va_join (wr := [(zo13nninnnn h0 0)]) (w1 := [(zo10ririliiriririr q_1 aTp_4 0 aHl_9 0 0 0 0 aHs_5 0 aWk_6 0 aBk_7 0 aFc_8), (zaI aTp_4 cTp_10 100 (fun _ => 0)), (zaR aHs_5 cHs_11 8 (fun _ => none)), (zaI aWk_6 cWk_12 6 (fun _ => 0)), (zaI aBk_7 cBk_13 12 (fun _ => 0)), (zaI aFc_8 cFc_14 6 (fun _ => 0)), (zo7iirrrriniii aHl_9 3 0 bW_15 bA_16 bE_17 bC_18 0 0 0 0), (zaI bW_15 cbW_19 10 (fun _ => 0)), (zaI bA_16 cbA_20 10 (fun _ => 0)), (zaI bE_17 cbE_21 10 (fun _ => 0)), (zaI bC_18 cbC_22 100 (fun _ => 0))]) hP hD [1] [0] rfl rfl (by decide) (by decide) hk1 hFc hP1 hD1
  have hK := (hK.sub (tys' := []) [] rfl).app hK1
  generalize H1 = H at hP hS ⊢
  have hP : va_P (dC, dI) vwCl [(zo13nninnnn h0 0), (zo10ririliiriririr q_1 aTp_4 0 aHl_9 0 0 0 0 aHs_5 0 aWk_6 0 aBk_7 0 aFc_8), (zaI aTp_4 cTp_10 100 (fun _ => 0)), (zaR aHs_5 cHs_11 8 (fun _ => none)), (zaI aWk_6 cWk_12 6 (fun _ => 0)), (zaI aBk_7 cBk_13 12 (fun _ => 0)), (zaI aFc_8 cFc_14 6 (fun _ => 0)), (zo7iirrrriniii aHl_9 3 0 bW_15 bA_16 bE_17 bC_18 0 0 0 0), (zaI bW_15 cbW_19 10 (fun _ => 0)), (zaI bA_16 cbA_20 10 (fun _ => 0)), (zaI bE_17 cbE_21 10 (fun _ => 0)), (zaI bC_18 cbC_22 100 (fun _ => 0))] H := hP
  have hD : va_D A [(zo13nninnnn h0 0), (zo10ririliiriririr q_1 aTp_4 0 aHl_9 0 0 0 0 aHs_5 0 aWk_6 0 aBk_7 0 aFc_8), (zaI aTp_4 cTp_10 100 (fun _ => 0)), (zaR aHs_5 cHs_11 8 (fun _ => none)), (zaI aWk_6 cWk_12 6 (fun _ => 0)), (zaI aBk_7 cBk_13 12 (fun _ => 0)), (zaI aFc_8 cFc_14 6 (fun _ => 0)), (zo7iirrrriniii aHl_9 3 0 bW_15 bA_16 bE_17 bC_18 0 0 0 0), (zaI bW_15 cbW_19 10 (fun _ => 0)), (zaI bA_16 cbA_20 10 (fun _ => 0)), (zaI bE_17 cbE_21 10 (fun _ => 0)), (zaI bC_18 cbC_22 100 (fun _ => 0))] := hD
  have hK : va_K (dC, dI) vwCl [(cTp_10, .int), (cHs_11, .object "MistHeaps$Heap"), (cWk_12, .int), (cBk_13, .int), (cFc_14, .int), (cbW_19, .int), (cbA_20, .int), (cbE_21, .int), (cbC_22, .int)] s := hK
  refine W.widen (k := 11) (n := 287) (by omega) (by omega) ?_
  refine va_putF (D := (dC, dI)) (ci := 13) (v := .ref q_1) (ty := .object "MistHeaps$Scene") (C := RX11) (T := TX11) (N := 7) hx hb hts kc_classInit_9 tyX11 tyX11_ok nmX11 hown hK hP hD hS 0 rfl rfl 0 (by decide) (hts (.fieldLink RX11 14 "MistHeaps" "scene" "LMistHeaps$Scene;") kc_classInit_10) (fun _ h9 => h9) rfl hin rfl (by decide +kernel) rfl rfl (Nat.le_of_ble_eq_true rfl) dX11_init_12 (fun H locs hP hD hS => ?_)
  have hP : va_P (dC, dI) vwCl [(zo13rninnnn h0 q_1 0), (zo10ririliiriririr q_1 aTp_4 0 aHl_9 0 0 0 0 aHs_5 0 aWk_6 0 aBk_7 0 aFc_8), (zaI aTp_4 cTp_10 100 (fun _ => 0)), (zaR aHs_5 cHs_11 8 (fun _ => none)), (zaI aWk_6 cWk_12 6 (fun _ => 0)), (zaI aBk_7 cBk_13 12 (fun _ => 0)), (zaI aFc_8 cFc_14 6 (fun _ => 0)), (zo7iirrrriniii aHl_9 3 0 bW_15 bA_16 bE_17 bC_18 0 0 0 0), (zaI bW_15 cbW_19 10 (fun _ => 0)), (zaI bA_16 cbA_20 10 (fun _ => 0)), (zaI bE_17 cbE_21 10 (fun _ => 0)), (zaI bC_18 cbC_22 100 (fun _ => 0))] H := hP
  have hD : va_D A [(zo13rninnnn h0 q_1 0), (zo10ririliiriririr q_1 aTp_4 0 aHl_9 0 0 0 0 aHs_5 0 aWk_6 0 aBk_7 0 aFc_8), (zaI aTp_4 cTp_10 100 (fun _ => 0)), (zaR aHs_5 cHs_11 8 (fun _ => none)), (zaI aWk_6 cWk_12 6 (fun _ => 0)), (zaI aBk_7 cBk_13 12 (fun _ => 0)), (zaI aFc_8 cFc_14 6 (fun _ => 0)), (zo7iirrrriniii aHl_9 3 0 bW_15 bA_16 bE_17 bC_18 0 0 0 0), (zaI bW_15 cbW_19 10 (fun _ => 0)), (zaI bA_16 cbA_20 10 (fun _ => 0)), (zaI bE_17 cbE_21 10 (fun _ => 0)), (zaI bC_18 cbC_22 100 (fun _ => 0))] := hD
  refine lv_aload_n hx hb dX11_init_15 rfl (lv_at hl 0 rfl) ?_
  refine va_new (ci := 10) (fs := [.null, .int 0, .null, .int 0, .long 0, .int 0, .int 0, .null, .int 0, .null, .int 0, .null, .int 0, .null]) (C := RX8) (T := TX8) (N := 14) hx hb hts kc_classInit_3 tyX8 tyX8_ok hown (hts (.classLink RX11 11 RX8) kc_classInit_4) (hts (.instantiable RX8 14) kc_classInit_5) (hts (.initialized RX8) kc_classInit_6) hK hP hD hS hA rfl (fun j hj => by rcases (show j = 0 ∨ j = 1 ∨ j = 2 ∨ j = 3 ∨ j = 4 ∨ j = 5 ∨ j = 6 ∨ j = 7 ∨ j = 8 ∨ j = 9 ∨ j = 10 ∨ j = 11 ∨ j = 12 ∨ j = 13 by omega) with rfl | rfl | rfl | rfl | rfl | rfl | rfl | rfl | rfl | rfl | rfl | rfl | rfl | rfl <;> rfl) (Nat.le_of_ble_eq_true rfl) (Nat.le_of_ble_eq_true rfl) dX11_init_16 (fun q_23 H hP hD hS => ?_)
  have hP : va_P (dC, dI) vwCl [(zo13rninnnn h0 q_1 0), (zo10ririliiriririr q_1 aTp_4 0 aHl_9 0 0 0 0 aHs_5 0 aWk_6 0 aBk_7 0 aFc_8), (zaI aTp_4 cTp_10 100 (fun _ => 0)), (zaR aHs_5 cHs_11 8 (fun _ => none)), (zaI aWk_6 cWk_12 6 (fun _ => 0)), (zaI aBk_7 cBk_13 12 (fun _ => 0)), (zaI aFc_8 cFc_14 6 (fun _ => 0)), (zo7iirrrriniii aHl_9 3 0 bW_15 bA_16 bE_17 bC_18 0 0 0 0), (zaI bW_15 cbW_19 10 (fun _ => 0)), (zaI bA_16 cbA_20 10 (fun _ => 0)), (zaI bE_17 cbE_21 10 (fun _ => 0)), (zaI bC_18 cbC_22 100 (fun _ => 0)), (zo10niniliinininin q_23 0 0 0 0 0 0 0 0)] H := hP
  have hD : va_D A [(zo13rninnnn h0 q_1 0), (zo10ririliiriririr q_1 aTp_4 0 aHl_9 0 0 0 0 aHs_5 0 aWk_6 0 aBk_7 0 aFc_8), (zaI aTp_4 cTp_10 100 (fun _ => 0)), (zaR aHs_5 cHs_11 8 (fun _ => none)), (zaI aWk_6 cWk_12 6 (fun _ => 0)), (zaI aBk_7 cBk_13 12 (fun _ => 0)), (zaI aFc_8 cFc_14 6 (fun _ => 0)), (zo7iirrrriniii aHl_9 3 0 bW_15 bA_16 bE_17 bC_18 0 0 0 0), (zaI bW_15 cbW_19 10 (fun _ => 0)), (zaI bA_16 cbA_20 10 (fun _ => 0)), (zaI bE_17 cbE_21 10 (fun _ => 0)), (zaI bC_18 cbC_22 100 (fun _ => 0)), (zo10niniliinininin q_23 0 0 0 0 0 0 0 0)] := hD
  refine W.widen (k := 12) (n := 301) (by omega) (by omega) ?_
  refine lv_dup hx hb dX11_init_19 rfl ?_
  have hPc := hP.sub (ws' := [(zo10niniliinininin q_23 0 0 0 0 0 0 0 0)]) [12] rfl
  have hDc := hD.sub (ws' := [(zo10niniliinininin q_23 0 0 0 0 0 0 0 0)]) [12] (by decide) rfl
  have hKc := hK.sub (tys' := []) [] rfl
  have hFc := va_free (wc := [(zo10niniliinininin q_23 0 0 0 0 0 0 0 0)]) hD hS hA [12] rfl
  refine va_callv (va_runI (As := []) (rest := [.ref q_23, .ref h0]) ⟨hx, hb, hml, hown, hts⟩ (c_sceneInit l dC dI bS q_23 H.size) (cwI 0 hts ggX11_init_X8_init rfl rfl rfl (hts (.initialized RX8) kc_classInit_6) (hts (.methodLink RX11 13 yX8_init) kc_classInit_7) (hts (.instanceMethod yX8_init) kc_classInit_8) rfl (by decide +kernel) ⟨Nat.le_of_ble_eq_true rfl, Nat.le_of_ble_eq_true rfl⟩) ⟨fun a U g mk q => by obtain ⟨q0, q1, qP, qK, qD, qhC⟩ := q; exact ⟨q0, mvz g mk a q1, mvP g mk a qP, mvK g mk a qK, qD, qhC.mv g mk a⟩, fun U hU hW => ⟨rfl, by rw [hU], by rw [hU]; exact hPc, va_K.moved hW.alike hKc, hDc.weaken (fun _ _ _ _ => trivial), hC.call hS hU hW (fun q h => hFc q h)⟩⟩ rfl rfl hl.1 rfl (lv_room (Nat.le_of_ble_eq_true rfl)) dX11_init_20 ⟨Nat.le_of_ble_eq_true rfl, Nat.le_of_ble_eq_true rfl⟩) hS (fun q _ h => hFc q h) hFc (fun u tC H1 locs htC hvm hw_25 hB hz1 hk1 hS => ?_)
  obtain ⟨⟩ := u
  try dsimp only at hw_25 hB
  obtain ⟨aTp_26, aHs_27, aWk_28, aBk_29, aFc_30, aHl_31, cTp_32, cHs_33, cWk_34, cBk_35, cFc_36, bW_37, bA_38, bE_39, bC_40, cbW_41, cbA_42, cbE_43, cbC_44, hP1, hK1, hD1⟩ := hB
  rw [htC] at hP1
  have hK1 := va_K.moved hvm.symm hK1
  obtain ⟨hP, hD⟩ := va_join (wr := [(zo13rninnnn h0 q_1 0), (zo10ririliiriririr q_1 aTp_4 0 aHl_9 0 0 0 0 aHs_5 0 aWk_6 0 aBk_7 0 aFc_8), (zaI aTp_4 cTp_10 100 (fun _ => 0)), (zaR aHs_5 cHs_11 8 (fun _ => none)), (zaI aWk_6 cWk_12 6 (fun _ => 0)), (zaI aBk_7 cBk_13 12 (fun _ => 0)), (zaI aFc_8 cFc_14 6 (fun _ => 0)), (zo7iirrrriniii aHl_9 3 0 bW_15 bA_16 bE_17 bC_18 0 0 0 0), (zaI bW_15 cbW_19 10 (fun _ => 0)), (zaI bA_16 cbA_20 10 (fun _ => 0)), (zaI bE_17 cbE_21 10 (fun _ => 0)), (zaI bC_18 cbC_22 100 (fun _ => 0))]) (w1 := [(zo10ririliiriririr q_23 aTp_26 0 aHl_31 0 0 0 0 aHs_27 0 aWk_28 0 aBk_29 0 aFc_30), (zaI aTp_26 cTp_32 100 (fun _ => 0)), (zaR aHs_27 cHs_33 8 (fun _ => none)), (zaI aWk_28 cWk_34 6 (fun _ => 0)), (zaI aBk_29 cBk_35 12 (fun _ => 0)), (zaI aFc_30 cFc_36 6 (fun _ => 0)), (zo7iirrrriniii aHl_31 3 0 bW_37 bA_38 bE_39 bC_40 0 0 0 0), (zaI bW_37 cbW_41 10 (fun _ => 0)), (zaI bA_38 cbA_42 10 (fun _ => 0)), (zaI bE_39 cbE_43 10 (fun _ => 0)), (zaI bC_40 cbC_44 100 (fun _ => 0))]) hP hD [12] [0, 1, 2, 3, 4, 5, 6, 7, 8, 9, 10, 11] rfl rfl (by decide) (by decide) hk1 hFc hP1 hD1
  have hK := (hK.sub (tys' := [(cTp_10, .int), (cHs_11, .object "MistHeaps$Heap"), (cWk_12, .int), (cBk_13, .int), (cFc_14, .int), (cbW_19, .int), (cbA_20, .int), (cbE_21, .int), (cbC_22, .int)]) [0, 1, 2, 3, 4, 5, 6, 7, 8] rfl).app hK1
  generalize H1 = H at hP hS ⊢
  have hP : va_P (dC, dI) vwCl [(zo13rninnnn h0 q_1 0), (zo10ririliiriririr q_1 aTp_4 0 aHl_9 0 0 0 0 aHs_5 0 aWk_6 0 aBk_7 0 aFc_8), (zaI aTp_4 cTp_10 100 (fun _ => 0)), (zaR aHs_5 cHs_11 8 (fun _ => none)), (zaI aWk_6 cWk_12 6 (fun _ => 0)), (zaI aBk_7 cBk_13 12 (fun _ => 0)), (zaI aFc_8 cFc_14 6 (fun _ => 0)), (zo7iirrrriniii aHl_9 3 0 bW_15 bA_16 bE_17 bC_18 0 0 0 0), (zaI bW_15 cbW_19 10 (fun _ => 0)), (zaI bA_16 cbA_20 10 (fun _ => 0)), (zaI bE_17 cbE_21 10 (fun _ => 0)), (zaI bC_18 cbC_22 100 (fun _ => 0)), (zo10ririliiriririr q_23 aTp_26 0 aHl_31 0 0 0 0 aHs_27 0 aWk_28 0 aBk_29 0 aFc_30), (zaI aTp_26 cTp_32 100 (fun _ => 0)), (zaR aHs_27 cHs_33 8 (fun _ => none)), (zaI aWk_28 cWk_34 6 (fun _ => 0)), (zaI aBk_29 cBk_35 12 (fun _ => 0)), (zaI aFc_30 cFc_36 6 (fun _ => 0)), (zo7iirrrriniii aHl_31 3 0 bW_37 bA_38 bE_39 bC_40 0 0 0 0), (zaI bW_37 cbW_41 10 (fun _ => 0)), (zaI bA_38 cbA_42 10 (fun _ => 0)), (zaI bE_39 cbE_43 10 (fun _ => 0)), (zaI bC_40 cbC_44 100 (fun _ => 0))] H := hP
  have hD : va_D A [(zo13rninnnn h0 q_1 0), (zo10ririliiriririr q_1 aTp_4 0 aHl_9 0 0 0 0 aHs_5 0 aWk_6 0 aBk_7 0 aFc_8), (zaI aTp_4 cTp_10 100 (fun _ => 0)), (zaR aHs_5 cHs_11 8 (fun _ => none)), (zaI aWk_6 cWk_12 6 (fun _ => 0)), (zaI aBk_7 cBk_13 12 (fun _ => 0)), (zaI aFc_8 cFc_14 6 (fun _ => 0)), (zo7iirrrriniii aHl_9 3 0 bW_15 bA_16 bE_17 bC_18 0 0 0 0), (zaI bW_15 cbW_19 10 (fun _ => 0)), (zaI bA_16 cbA_20 10 (fun _ => 0)), (zaI bE_17 cbE_21 10 (fun _ => 0)), (zaI bC_18 cbC_22 100 (fun _ => 0)), (zo10ririliiriririr q_23 aTp_26 0 aHl_31 0 0 0 0 aHs_27 0 aWk_28 0 aBk_29 0 aFc_30), (zaI aTp_26 cTp_32 100 (fun _ => 0)), (zaR aHs_27 cHs_33 8 (fun _ => none)), (zaI aWk_28 cWk_34 6 (fun _ => 0)), (zaI aBk_29 cBk_35 12 (fun _ => 0)), (zaI aFc_30 cFc_36 6 (fun _ => 0)), (zo7iirrrriniii aHl_31 3 0 bW_37 bA_38 bE_39 bC_40 0 0 0 0), (zaI bW_37 cbW_41 10 (fun _ => 0)), (zaI bA_38 cbA_42 10 (fun _ => 0)), (zaI bE_39 cbE_43 10 (fun _ => 0)), (zaI bC_40 cbC_44 100 (fun _ => 0))] := hD
  have hK : va_K (dC, dI) vwCl [(cTp_10, .int), (cHs_11, .object "MistHeaps$Heap"), (cWk_12, .int), (cBk_13, .int), (cFc_14, .int), (cbW_19, .int), (cbA_20, .int), (cbE_21, .int), (cbC_22, .int), (cTp_32, .int), (cHs_33, .object "MistHeaps$Heap"), (cWk_34, .int), (cBk_35, .int), (cFc_36, .int), (cbW_41, .int), (cbA_42, .int), (cbE_43, .int), (cbC_44, .int)] s := hK
  refine W.widen (k := 22) (n := 574) (by omega) (by omega) ?_
  refine va_putF (D := (dC, dI)) (ci := 13) (v := .ref q_23) (ty := .object "MistHeaps$Scene") (C := RX11) (T := TX11) (N := 7) hx hb hts kc_classInit_9 tyX11 tyX11_ok nmX11 hown hK hP hD hS 0 rfl rfl 1 (by decide) (hts (.fieldLink RX11 18 "MistHeaps" "kept" "LMistHeaps$Scene;") kc_classInit_11) (fun _ h9 => h9) rfl hin rfl (by decide +kernel) rfl rfl (Nat.le_of_ble_eq_true rfl) dX11_init_23 (fun H locs hP hD hS => ?_)
  have hP : va_P (dC, dI) vwCl [(zo13rrinnnn h0 q_1 q_23 0), (zo10ririliiriririr q_1 aTp_4 0 aHl_9 0 0 0 0 aHs_5 0 aWk_6 0 aBk_7 0 aFc_8), (zaI aTp_4 cTp_10 100 (fun _ => 0)), (zaR aHs_5 cHs_11 8 (fun _ => none)), (zaI aWk_6 cWk_12 6 (fun _ => 0)), (zaI aBk_7 cBk_13 12 (fun _ => 0)), (zaI aFc_8 cFc_14 6 (fun _ => 0)), (zo7iirrrriniii aHl_9 3 0 bW_15 bA_16 bE_17 bC_18 0 0 0 0), (zaI bW_15 cbW_19 10 (fun _ => 0)), (zaI bA_16 cbA_20 10 (fun _ => 0)), (zaI bE_17 cbE_21 10 (fun _ => 0)), (zaI bC_18 cbC_22 100 (fun _ => 0)), (zo10ririliiriririr q_23 aTp_26 0 aHl_31 0 0 0 0 aHs_27 0 aWk_28 0 aBk_29 0 aFc_30), (zaI aTp_26 cTp_32 100 (fun _ => 0)), (zaR aHs_27 cHs_33 8 (fun _ => none)), (zaI aWk_28 cWk_34 6 (fun _ => 0)), (zaI aBk_29 cBk_35 12 (fun _ => 0)), (zaI aFc_30 cFc_36 6 (fun _ => 0)), (zo7iirrrriniii aHl_31 3 0 bW_37 bA_38 bE_39 bC_40 0 0 0 0), (zaI bW_37 cbW_41 10 (fun _ => 0)), (zaI bA_38 cbA_42 10 (fun _ => 0)), (zaI bE_39 cbE_43 10 (fun _ => 0)), (zaI bC_40 cbC_44 100 (fun _ => 0))] H := hP
  have hD : va_D A [(zo13rrinnnn h0 q_1 q_23 0), (zo10ririliiriririr q_1 aTp_4 0 aHl_9 0 0 0 0 aHs_5 0 aWk_6 0 aBk_7 0 aFc_8), (zaI aTp_4 cTp_10 100 (fun _ => 0)), (zaR aHs_5 cHs_11 8 (fun _ => none)), (zaI aWk_6 cWk_12 6 (fun _ => 0)), (zaI aBk_7 cBk_13 12 (fun _ => 0)), (zaI aFc_8 cFc_14 6 (fun _ => 0)), (zo7iirrrriniii aHl_9 3 0 bW_15 bA_16 bE_17 bC_18 0 0 0 0), (zaI bW_15 cbW_19 10 (fun _ => 0)), (zaI bA_16 cbA_20 10 (fun _ => 0)), (zaI bE_17 cbE_21 10 (fun _ => 0)), (zaI bC_18 cbC_22 100 (fun _ => 0)), (zo10ririliiriririr q_23 aTp_26 0 aHl_31 0 0 0 0 aHs_27 0 aWk_28 0 aBk_29 0 aFc_30), (zaI aTp_26 cTp_32 100 (fun _ => 0)), (zaR aHs_27 cHs_33 8 (fun _ => none)), (zaI aWk_28 cWk_34 6 (fun _ => 0)), (zaI aBk_29 cBk_35 12 (fun _ => 0)), (zaI aFc_30 cFc_36 6 (fun _ => 0)), (zo7iirrrriniii aHl_31 3 0 bW_37 bA_38 bE_39 bC_40 0 0 0 0), (zaI bW_37 cbW_41 10 (fun _ => 0)), (zaI bA_38 cbA_42 10 (fun _ => 0)), (zaI bE_39 cbE_43 10 (fun _ => 0)), (zaI bC_40 cbC_44 100 (fun _ => 0))] := hD
  refine lv_aload_n hx hb dX11_init_26 rfl (lv_at hl 0 rfl) ?_
  refine lv_iconst (v := 0) hx hb dX11_init_27 (by decide) ?_
  refine va_put (D := (dC, dI)) (ci := 13) (v := .int 0) (ty := .boolean) (C := RX11) (T := TX11) (N := 7) hx hb hts kc_classInit_9 tyX11 tyX11_ok nmX11 hown hK hP hD hS 0 rfl rfl 2 (by decide) (hts (.fieldLink RX11 21 "MistHeaps" "isKept" "Z") kc_classInit_12) (fun _ h9 => h9) rfl (by decide +kernel) rfl rfl (Nat.le_of_ble_eq_true rfl) dX11_init_28 (fun H locs hP hD hS => ?_)
  have hP : va_P (dC, dI) vwCl [(zo13rrinnnn h0 q_1 q_23 0), (zo10ririliiriririr q_1 aTp_4 0 aHl_9 0 0 0 0 aHs_5 0 aWk_6 0 aBk_7 0 aFc_8), (zaI aTp_4 cTp_10 100 (fun _ => 0)), (zaR aHs_5 cHs_11 8 (fun _ => none)), (zaI aWk_6 cWk_12 6 (fun _ => 0)), (zaI aBk_7 cBk_13 12 (fun _ => 0)), (zaI aFc_8 cFc_14 6 (fun _ => 0)), (zo7iirrrriniii aHl_9 3 0 bW_15 bA_16 bE_17 bC_18 0 0 0 0), (zaI bW_15 cbW_19 10 (fun _ => 0)), (zaI bA_16 cbA_20 10 (fun _ => 0)), (zaI bE_17 cbE_21 10 (fun _ => 0)), (zaI bC_18 cbC_22 100 (fun _ => 0)), (zo10ririliiriririr q_23 aTp_26 0 aHl_31 0 0 0 0 aHs_27 0 aWk_28 0 aBk_29 0 aFc_30), (zaI aTp_26 cTp_32 100 (fun _ => 0)), (zaR aHs_27 cHs_33 8 (fun _ => none)), (zaI aWk_28 cWk_34 6 (fun _ => 0)), (zaI aBk_29 cBk_35 12 (fun _ => 0)), (zaI aFc_30 cFc_36 6 (fun _ => 0)), (zo7iirrrriniii aHl_31 3 0 bW_37 bA_38 bE_39 bC_40 0 0 0 0), (zaI bW_37 cbW_41 10 (fun _ => 0)), (zaI bA_38 cbA_42 10 (fun _ => 0)), (zaI bE_39 cbE_43 10 (fun _ => 0)), (zaI bC_40 cbC_44 100 (fun _ => 0))] H := hP
  have hD : va_D A [(zo13rrinnnn h0 q_1 q_23 0), (zo10ririliiriririr q_1 aTp_4 0 aHl_9 0 0 0 0 aHs_5 0 aWk_6 0 aBk_7 0 aFc_8), (zaI aTp_4 cTp_10 100 (fun _ => 0)), (zaR aHs_5 cHs_11 8 (fun _ => none)), (zaI aWk_6 cWk_12 6 (fun _ => 0)), (zaI aBk_7 cBk_13 12 (fun _ => 0)), (zaI aFc_8 cFc_14 6 (fun _ => 0)), (zo7iirrrriniii aHl_9 3 0 bW_15 bA_16 bE_17 bC_18 0 0 0 0), (zaI bW_15 cbW_19 10 (fun _ => 0)), (zaI bA_16 cbA_20 10 (fun _ => 0)), (zaI bE_17 cbE_21 10 (fun _ => 0)), (zaI bC_18 cbC_22 100 (fun _ => 0)), (zo10ririliiriririr q_23 aTp_26 0 aHl_31 0 0 0 0 aHs_27 0 aWk_28 0 aBk_29 0 aFc_30), (zaI aTp_26 cTp_32 100 (fun _ => 0)), (zaR aHs_27 cHs_33 8 (fun _ => none)), (zaI aWk_28 cWk_34 6 (fun _ => 0)), (zaI aBk_29 cBk_35 12 (fun _ => 0)), (zaI aFc_30 cFc_36 6 (fun _ => 0)), (zo7iirrrriniii aHl_31 3 0 bW_37 bA_38 bE_39 bC_40 0 0 0 0), (zaI bW_37 cbW_41 10 (fun _ => 0)), (zaI bA_38 cbA_42 10 (fun _ => 0)), (zaI bE_39 cbE_43 10 (fun _ => 0)), (zaI bC_40 cbC_44 100 (fun _ => 0))] := hD
  refine lv_aload_n hx hb dX11_init_31 rfl (lv_at hl 0 rfl) ?_
  refine va_new (ci := 7) (fs := [.int 0, .int 0, .null, .null, .null, .null, .int 0, .null, .int 0, .int 0, .int 0]) (C := RX5) (T := TX5) (N := 11) hx hb hts kc_classInit_13 tyX5 tyX5_ok hown (hts (.classLink RX11 25 RX5) kc_classInit_14) (hts (.instantiable RX5 11) kc_classInit_15) (hts (.initialized RX5) kc_classInit_16) hK hP hD hS hA rfl (fun j hj => by rcases (show j = 0 ∨ j = 1 ∨ j = 2 ∨ j = 3 ∨ j = 4 ∨ j = 5 ∨ j = 6 ∨ j = 7 ∨ j = 8 ∨ j = 9 ∨ j = 10 by omega) with rfl | rfl | rfl | rfl | rfl | rfl | rfl | rfl | rfl | rfl | rfl <;> rfl) (Nat.le_of_ble_eq_true rfl) (Nat.le_of_ble_eq_true rfl) dX11_init_32 (fun q_45 H hP hD hS => ?_)
  have hP : va_P (dC, dI) vwCl [(zo13rrinnnn h0 q_1 q_23 0), (zo10ririliiriririr q_1 aTp_4 0 aHl_9 0 0 0 0 aHs_5 0 aWk_6 0 aBk_7 0 aFc_8), (zaI aTp_4 cTp_10 100 (fun _ => 0)), (zaR aHs_5 cHs_11 8 (fun _ => none)), (zaI aWk_6 cWk_12 6 (fun _ => 0)), (zaI aBk_7 cBk_13 12 (fun _ => 0)), (zaI aFc_8 cFc_14 6 (fun _ => 0)), (zo7iirrrriniii aHl_9 3 0 bW_15 bA_16 bE_17 bC_18 0 0 0 0), (zaI bW_15 cbW_19 10 (fun _ => 0)), (zaI bA_16 cbA_20 10 (fun _ => 0)), (zaI bE_17 cbE_21 10 (fun _ => 0)), (zaI bC_18 cbC_22 100 (fun _ => 0)), (zo10ririliiriririr q_23 aTp_26 0 aHl_31 0 0 0 0 aHs_27 0 aWk_28 0 aBk_29 0 aFc_30), (zaI aTp_26 cTp_32 100 (fun _ => 0)), (zaR aHs_27 cHs_33 8 (fun _ => none)), (zaI aWk_28 cWk_34 6 (fun _ => 0)), (zaI aBk_29 cBk_35 12 (fun _ => 0)), (zaI aFc_30 cFc_36 6 (fun _ => 0)), (zo7iirrrriniii aHl_31 3 0 bW_37 bA_38 bE_39 bC_40 0 0 0 0), (zaI bW_37 cbW_41 10 (fun _ => 0)), (zaI bA_38 cbA_42 10 (fun _ => 0)), (zaI bE_39 cbE_43 10 (fun _ => 0)), (zaI bC_40 cbC_44 100 (fun _ => 0)), (zo7iinnnniniii q_45 0 0 0 0 0 0)] H := hP
  have hD : va_D A [(zo13rrinnnn h0 q_1 q_23 0), (zo10ririliiriririr q_1 aTp_4 0 aHl_9 0 0 0 0 aHs_5 0 aWk_6 0 aBk_7 0 aFc_8), (zaI aTp_4 cTp_10 100 (fun _ => 0)), (zaR aHs_5 cHs_11 8 (fun _ => none)), (zaI aWk_6 cWk_12 6 (fun _ => 0)), (zaI aBk_7 cBk_13 12 (fun _ => 0)), (zaI aFc_8 cFc_14 6 (fun _ => 0)), (zo7iirrrriniii aHl_9 3 0 bW_15 bA_16 bE_17 bC_18 0 0 0 0), (zaI bW_15 cbW_19 10 (fun _ => 0)), (zaI bA_16 cbA_20 10 (fun _ => 0)), (zaI bE_17 cbE_21 10 (fun _ => 0)), (zaI bC_18 cbC_22 100 (fun _ => 0)), (zo10ririliiriririr q_23 aTp_26 0 aHl_31 0 0 0 0 aHs_27 0 aWk_28 0 aBk_29 0 aFc_30), (zaI aTp_26 cTp_32 100 (fun _ => 0)), (zaR aHs_27 cHs_33 8 (fun _ => none)), (zaI aWk_28 cWk_34 6 (fun _ => 0)), (zaI aBk_29 cBk_35 12 (fun _ => 0)), (zaI aFc_30 cFc_36 6 (fun _ => 0)), (zo7iirrrriniii aHl_31 3 0 bW_37 bA_38 bE_39 bC_40 0 0 0 0), (zaI bW_37 cbW_41 10 (fun _ => 0)), (zaI bA_38 cbA_42 10 (fun _ => 0)), (zaI bE_39 cbE_43 10 (fun _ => 0)), (zaI bC_40 cbC_44 100 (fun _ => 0)), (zo7iinnnniniii q_45 0 0 0 0 0 0)] := hD
  refine W.widen (k := 23) (n := 585) (by omega) (by omega) ?_
  refine lv_dup hx hb dX11_init_35 rfl ?_
  have hPc := hP.sub (ws' := [(zo7iinnnniniii q_45 0 0 0 0 0 0)]) [23] rfl
  have hDc := hD.sub (ws' := [(zo7iinnnniniii q_45 0 0 0 0 0 0)]) [23] (by decide) rfl
  have hKc := hK.sub (tys' := []) [] rfl
  have hFc := va_free (wc := [(zo7iinnnniniii q_45 0 0 0 0 0 0)]) hD hS hA [23] rfl
  refine va_callv (va_runI (As := []) (rest := [.ref q_45, .ref h0]) ⟨hx, hb, hml, hown, hts⟩ (c_hillInit l dC dI q_45 H.size) (cwI 0 hts ggX11_init_X5_init rfl rfl rfl (hts (.initialized RX5) kc_classInit_16) (hts (.methodLink RX11 27 yX5_init) kc_classInit_17) (hts (.instanceMethod yX5_init) kc_classInit_18) rfl (by decide +kernel) ⟨Nat.le_of_ble_eq_true rfl, Nat.le_of_ble_eq_true rfl⟩) ⟨fun a U g mk q => by obtain ⟨q0, q1, qP, qK, qD⟩ := q; exact ⟨q0, mvz g mk a q1, mvP g mk a qP, mvK g mk a qK, qD⟩, fun U hU hW => ⟨rfl, by rw [hU], by rw [hU]; exact hPc, va_K.moved hW.alike hKc, hDc.weaken (fun _ _ _ _ => trivial)⟩⟩ rfl rfl hl.1 rfl (lv_room (Nat.le_of_ble_eq_true rfl)) dX11_init_36 ⟨Nat.le_of_ble_eq_true rfl, Nat.le_of_ble_eq_true rfl⟩) hS (fun q _ h => hFc q h) hFc (fun u tC H1 locs htC hvm hw_47 hB hz1 hk1 hS => ?_)
  obtain ⟨⟩ := u
  try dsimp only at hw_47 hB
  obtain ⟨bW_48, bA_49, bE_50, bC_51, cbW_52, cbA_53, cbE_54, cbC_55, hP1, hK1, hD1⟩ := hB
  rw [htC] at hP1
  have hK1 := va_K.moved hvm.symm hK1
  obtain ⟨hP, hD⟩ := va_join (wr := [(zo13rrinnnn h0 q_1 q_23 0), (zo10ririliiriririr q_1 aTp_4 0 aHl_9 0 0 0 0 aHs_5 0 aWk_6 0 aBk_7 0 aFc_8), (zaI aTp_4 cTp_10 100 (fun _ => 0)), (zaR aHs_5 cHs_11 8 (fun _ => none)), (zaI aWk_6 cWk_12 6 (fun _ => 0)), (zaI aBk_7 cBk_13 12 (fun _ => 0)), (zaI aFc_8 cFc_14 6 (fun _ => 0)), (zo7iirrrriniii aHl_9 3 0 bW_15 bA_16 bE_17 bC_18 0 0 0 0), (zaI bW_15 cbW_19 10 (fun _ => 0)), (zaI bA_16 cbA_20 10 (fun _ => 0)), (zaI bE_17 cbE_21 10 (fun _ => 0)), (zaI bC_18 cbC_22 100 (fun _ => 0)), (zo10ririliiriririr q_23 aTp_26 0 aHl_31 0 0 0 0 aHs_27 0 aWk_28 0 aBk_29 0 aFc_30), (zaI aTp_26 cTp_32 100 (fun _ => 0)), (zaR aHs_27 cHs_33 8 (fun _ => none)), (zaI aWk_28 cWk_34 6 (fun _ => 0)), (zaI aBk_29 cBk_35 12 (fun _ => 0)), (zaI aFc_30 cFc_36 6 (fun _ => 0)), (zo7iirrrriniii aHl_31 3 0 bW_37 bA_38 bE_39 bC_40 0 0 0 0), (zaI bW_37 cbW_41 10 (fun _ => 0)), (zaI bA_38 cbA_42 10 (fun _ => 0)), (zaI bE_39 cbE_43 10 (fun _ => 0)), (zaI bC_40 cbC_44 100 (fun _ => 0))]) (w1 := [(zo7iirrrriniii q_45 3 0 bW_48 bA_49 bE_50 bC_51 0 0 0 0), (zaI bW_48 cbW_52 10 (fun _ => 0)), (zaI bA_49 cbA_53 10 (fun _ => 0)), (zaI bE_50 cbE_54 10 (fun _ => 0)), (zaI bC_51 cbC_55 100 (fun _ => 0))]) hP hD [23] [0, 1, 2, 3, 4, 5, 6, 7, 8, 9, 10, 11, 12, 13, 14, 15, 16, 17, 18, 19, 20, 21, 22] rfl rfl (by decide) (by decide) hk1 hFc hP1 hD1
  have hK := (hK.sub (tys' := [(cTp_10, .int), (cHs_11, .object "MistHeaps$Heap"), (cWk_12, .int), (cBk_13, .int), (cFc_14, .int), (cbW_19, .int), (cbA_20, .int), (cbE_21, .int), (cbC_22, .int), (cTp_32, .int), (cHs_33, .object "MistHeaps$Heap"), (cWk_34, .int), (cBk_35, .int), (cFc_36, .int), (cbW_41, .int), (cbA_42, .int), (cbE_43, .int), (cbC_44, .int)]) [0, 1, 2, 3, 4, 5, 6, 7, 8, 9, 10, 11, 12, 13, 14, 15, 16, 17] rfl).app hK1
  generalize H1 = H at hP hS ⊢
  have hP : va_P (dC, dI) vwCl [(zo13rrinnnn h0 q_1 q_23 0), (zo10ririliiriririr q_1 aTp_4 0 aHl_9 0 0 0 0 aHs_5 0 aWk_6 0 aBk_7 0 aFc_8), (zaI aTp_4 cTp_10 100 (fun _ => 0)), (zaR aHs_5 cHs_11 8 (fun _ => none)), (zaI aWk_6 cWk_12 6 (fun _ => 0)), (zaI aBk_7 cBk_13 12 (fun _ => 0)), (zaI aFc_8 cFc_14 6 (fun _ => 0)), (zo7iirrrriniii aHl_9 3 0 bW_15 bA_16 bE_17 bC_18 0 0 0 0), (zaI bW_15 cbW_19 10 (fun _ => 0)), (zaI bA_16 cbA_20 10 (fun _ => 0)), (zaI bE_17 cbE_21 10 (fun _ => 0)), (zaI bC_18 cbC_22 100 (fun _ => 0)), (zo10ririliiriririr q_23 aTp_26 0 aHl_31 0 0 0 0 aHs_27 0 aWk_28 0 aBk_29 0 aFc_30), (zaI aTp_26 cTp_32 100 (fun _ => 0)), (zaR aHs_27 cHs_33 8 (fun _ => none)), (zaI aWk_28 cWk_34 6 (fun _ => 0)), (zaI aBk_29 cBk_35 12 (fun _ => 0)), (zaI aFc_30 cFc_36 6 (fun _ => 0)), (zo7iirrrriniii aHl_31 3 0 bW_37 bA_38 bE_39 bC_40 0 0 0 0), (zaI bW_37 cbW_41 10 (fun _ => 0)), (zaI bA_38 cbA_42 10 (fun _ => 0)), (zaI bE_39 cbE_43 10 (fun _ => 0)), (zaI bC_40 cbC_44 100 (fun _ => 0)), (zo7iirrrriniii q_45 3 0 bW_48 bA_49 bE_50 bC_51 0 0 0 0), (zaI bW_48 cbW_52 10 (fun _ => 0)), (zaI bA_49 cbA_53 10 (fun _ => 0)), (zaI bE_50 cbE_54 10 (fun _ => 0)), (zaI bC_51 cbC_55 100 (fun _ => 0))] H := hP
  have hD : va_D A [(zo13rrinnnn h0 q_1 q_23 0), (zo10ririliiriririr q_1 aTp_4 0 aHl_9 0 0 0 0 aHs_5 0 aWk_6 0 aBk_7 0 aFc_8), (zaI aTp_4 cTp_10 100 (fun _ => 0)), (zaR aHs_5 cHs_11 8 (fun _ => none)), (zaI aWk_6 cWk_12 6 (fun _ => 0)), (zaI aBk_7 cBk_13 12 (fun _ => 0)), (zaI aFc_8 cFc_14 6 (fun _ => 0)), (zo7iirrrriniii aHl_9 3 0 bW_15 bA_16 bE_17 bC_18 0 0 0 0), (zaI bW_15 cbW_19 10 (fun _ => 0)), (zaI bA_16 cbA_20 10 (fun _ => 0)), (zaI bE_17 cbE_21 10 (fun _ => 0)), (zaI bC_18 cbC_22 100 (fun _ => 0)), (zo10ririliiriririr q_23 aTp_26 0 aHl_31 0 0 0 0 aHs_27 0 aWk_28 0 aBk_29 0 aFc_30), (zaI aTp_26 cTp_32 100 (fun _ => 0)), (zaR aHs_27 cHs_33 8 (fun _ => none)), (zaI aWk_28 cWk_34 6 (fun _ => 0)), (zaI aBk_29 cBk_35 12 (fun _ => 0)), (zaI aFc_30 cFc_36 6 (fun _ => 0)), (zo7iirrrriniii aHl_31 3 0 bW_37 bA_38 bE_39 bC_40 0 0 0 0), (zaI bW_37 cbW_41 10 (fun _ => 0)), (zaI bA_38 cbA_42 10 (fun _ => 0)), (zaI bE_39 cbE_43 10 (fun _ => 0)), (zaI bC_40 cbC_44 100 (fun _ => 0)), (zo7iirrrriniii q_45 3 0 bW_48 bA_49 bE_50 bC_51 0 0 0 0), (zaI bW_48 cbW_52 10 (fun _ => 0)), (zaI bA_49 cbA_53 10 (fun _ => 0)), (zaI bE_50 cbE_54 10 (fun _ => 0)), (zaI bC_51 cbC_55 100 (fun _ => 0))] := hD
  have hK : va_K (dC, dI) vwCl [(cTp_10, .int), (cHs_11, .object "MistHeaps$Heap"), (cWk_12, .int), (cBk_13, .int), (cFc_14, .int), (cbW_19, .int), (cbA_20, .int), (cbE_21, .int), (cbC_22, .int), (cTp_32, .int), (cHs_33, .object "MistHeaps$Heap"), (cWk_34, .int), (cBk_35, .int), (cFc_36, .int), (cbW_41, .int), (cbA_42, .int), (cbE_43, .int), (cbC_44, .int), (cbW_52, .int), (cbA_53, .int), (cbE_54, .int), (cbC_55, .int)] s := hK
  refine W.widen (k := 27) (n := 715) (by omega) (by omega) ?_
  refine va_put (D := (dC, dI)) (ci := 13) (v := .ref q_45) (ty := .object "MistHeaps$Hill") (C := RX11) (T := TX11) (N := 7) hx hb hts kc_classInit_9 tyX11 tyX11_ok nmX11 hown hK hP hD hS 0 rfl rfl 3 (by decide) (hts (.fieldLink RX11 28 "MistHeaps" "blank" "LMistHeaps$Hill;") kc_classInit_19) (fun _ h9 => h9) rfl (by decide +kernel) rfl rfl (Nat.le_of_ble_eq_true rfl) dX11_init_39 (fun H locs hP hD hS => ?_)
  have hP : va_P (dC, dI) vwCl [(zo13rrirnnn h0 q_1 q_23 0 q_45), (zo10ririliiriririr q_1 aTp_4 0 aHl_9 0 0 0 0 aHs_5 0 aWk_6 0 aBk_7 0 aFc_8), (zaI aTp_4 cTp_10 100 (fun _ => 0)), (zaR aHs_5 cHs_11 8 (fun _ => none)), (zaI aWk_6 cWk_12 6 (fun _ => 0)), (zaI aBk_7 cBk_13 12 (fun _ => 0)), (zaI aFc_8 cFc_14 6 (fun _ => 0)), (zo7iirrrriniii aHl_9 3 0 bW_15 bA_16 bE_17 bC_18 0 0 0 0), (zaI bW_15 cbW_19 10 (fun _ => 0)), (zaI bA_16 cbA_20 10 (fun _ => 0)), (zaI bE_17 cbE_21 10 (fun _ => 0)), (zaI bC_18 cbC_22 100 (fun _ => 0)), (zo10ririliiriririr q_23 aTp_26 0 aHl_31 0 0 0 0 aHs_27 0 aWk_28 0 aBk_29 0 aFc_30), (zaI aTp_26 cTp_32 100 (fun _ => 0)), (zaR aHs_27 cHs_33 8 (fun _ => none)), (zaI aWk_28 cWk_34 6 (fun _ => 0)), (zaI aBk_29 cBk_35 12 (fun _ => 0)), (zaI aFc_30 cFc_36 6 (fun _ => 0)), (zo7iirrrriniii aHl_31 3 0 bW_37 bA_38 bE_39 bC_40 0 0 0 0), (zaI bW_37 cbW_41 10 (fun _ => 0)), (zaI bA_38 cbA_42 10 (fun _ => 0)), (zaI bE_39 cbE_43 10 (fun _ => 0)), (zaI bC_40 cbC_44 100 (fun _ => 0)), (zo7iirrrriniii q_45 3 0 bW_48 bA_49 bE_50 bC_51 0 0 0 0), (zaI bW_48 cbW_52 10 (fun _ => 0)), (zaI bA_49 cbA_53 10 (fun _ => 0)), (zaI bE_50 cbE_54 10 (fun _ => 0)), (zaI bC_51 cbC_55 100 (fun _ => 0))] H := hP
  have hD : va_D A [(zo13rrirnnn h0 q_1 q_23 0 q_45), (zo10ririliiriririr q_1 aTp_4 0 aHl_9 0 0 0 0 aHs_5 0 aWk_6 0 aBk_7 0 aFc_8), (zaI aTp_4 cTp_10 100 (fun _ => 0)), (zaR aHs_5 cHs_11 8 (fun _ => none)), (zaI aWk_6 cWk_12 6 (fun _ => 0)), (zaI aBk_7 cBk_13 12 (fun _ => 0)), (zaI aFc_8 cFc_14 6 (fun _ => 0)), (zo7iirrrriniii aHl_9 3 0 bW_15 bA_16 bE_17 bC_18 0 0 0 0), (zaI bW_15 cbW_19 10 (fun _ => 0)), (zaI bA_16 cbA_20 10 (fun _ => 0)), (zaI bE_17 cbE_21 10 (fun _ => 0)), (zaI bC_18 cbC_22 100 (fun _ => 0)), (zo10ririliiriririr q_23 aTp_26 0 aHl_31 0 0 0 0 aHs_27 0 aWk_28 0 aBk_29 0 aFc_30), (zaI aTp_26 cTp_32 100 (fun _ => 0)), (zaR aHs_27 cHs_33 8 (fun _ => none)), (zaI aWk_28 cWk_34 6 (fun _ => 0)), (zaI aBk_29 cBk_35 12 (fun _ => 0)), (zaI aFc_30 cFc_36 6 (fun _ => 0)), (zo7iirrrriniii aHl_31 3 0 bW_37 bA_38 bE_39 bC_40 0 0 0 0), (zaI bW_37 cbW_41 10 (fun _ => 0)), (zaI bA_38 cbA_42 10 (fun _ => 0)), (zaI bE_39 cbE_43 10 (fun _ => 0)), (zaI bC_40 cbC_44 100 (fun _ => 0)), (zo7iirrrriniii q_45 3 0 bW_48 bA_49 bE_50 bC_51 0 0 0 0), (zaI bW_48 cbW_52 10 (fun _ => 0)), (zaI bA_49 cbA_53 10 (fun _ => 0)), (zaI bE_50 cbE_54 10 (fun _ => 0)), (zaI bC_51 cbC_55 100 (fun _ => 0))] := hD
  refine lv_aload_n hx hb dX11_init_42 rfl (lv_at hl 0 rfl) ?_
  refine va_new (ci := 4) (fs := [.null, .null, .int 0, .null]) (C := RX2) (T := TX2) (N := 4) hx hb hts kc_classInit_20 tyX2 tyX2_ok hown (hts (.classLink RX11 32 RX2) kc_classInit_21) (hts (.instantiable RX2 4) kc_classInit_22) (hts (.initialized RX2) kc_classInit_23) hK hP hD hS hA rfl (fun j hj => by rcases (show j = 0 ∨ j = 1 ∨ j = 2 ∨ j = 3 by omega) with rfl | rfl | rfl | rfl <;> rfl) (Nat.le_of_ble_eq_true rfl) (Nat.le_of_ble_eq_true rfl) dX11_init_43 (fun q_56 H hP hD hS => ?_)
  have hP : va_P (dC, dI) vwCl [(zo13rrirnnn h0 q_1 q_23 0 q_45), (zo10ririliiriririr q_1 aTp_4 0 aHl_9 0 0 0 0 aHs_5 0 aWk_6 0 aBk_7 0 aFc_8), (zaI aTp_4 cTp_10 100 (fun _ => 0)), (zaR aHs_5 cHs_11 8 (fun _ => none)), (zaI aWk_6 cWk_12 6 (fun _ => 0)), (zaI aBk_7 cBk_13 12 (fun _ => 0)), (zaI aFc_8 cFc_14 6 (fun _ => 0)), (zo7iirrrriniii aHl_9 3 0 bW_15 bA_16 bE_17 bC_18 0 0 0 0), (zaI bW_15 cbW_19 10 (fun _ => 0)), (zaI bA_16 cbA_20 10 (fun _ => 0)), (zaI bE_17 cbE_21 10 (fun _ => 0)), (zaI bC_18 cbC_22 100 (fun _ => 0)), (zo10ririliiriririr q_23 aTp_26 0 aHl_31 0 0 0 0 aHs_27 0 aWk_28 0 aBk_29 0 aFc_30), (zaI aTp_26 cTp_32 100 (fun _ => 0)), (zaR aHs_27 cHs_33 8 (fun _ => none)), (zaI aWk_28 cWk_34 6 (fun _ => 0)), (zaI aBk_29 cBk_35 12 (fun _ => 0)), (zaI aFc_30 cFc_36 6 (fun _ => 0)), (zo7iirrrriniii aHl_31 3 0 bW_37 bA_38 bE_39 bC_40 0 0 0 0), (zaI bW_37 cbW_41 10 (fun _ => 0)), (zaI bA_38 cbA_42 10 (fun _ => 0)), (zaI bE_39 cbE_43 10 (fun _ => 0)), (zaI bC_40 cbC_44 100 (fun _ => 0)), (zo7iirrrriniii q_45 3 0 bW_48 bA_49 bE_50 bC_51 0 0 0 0), (zaI bW_48 cbW_52 10 (fun _ => 0)), (zaI bA_49 cbA_53 10 (fun _ => 0)), (zaI bE_50 cbE_54 10 (fun _ => 0)), (zaI bC_51 cbC_55 100 (fun _ => 0)), (zo4nnin q_56 0)] H := hP
  have hD : va_D A [(zo13rrirnnn h0 q_1 q_23 0 q_45), (zo10ririliiriririr q_1 aTp_4 0 aHl_9 0 0 0 0 aHs_5 0 aWk_6 0 aBk_7 0 aFc_8), (zaI aTp_4 cTp_10 100 (fun _ => 0)), (zaR aHs_5 cHs_11 8 (fun _ => none)), (zaI aWk_6 cWk_12 6 (fun _ => 0)), (zaI aBk_7 cBk_13 12 (fun _ => 0)), (zaI aFc_8 cFc_14 6 (fun _ => 0)), (zo7iirrrriniii aHl_9 3 0 bW_15 bA_16 bE_17 bC_18 0 0 0 0), (zaI bW_15 cbW_19 10 (fun _ => 0)), (zaI bA_16 cbA_20 10 (fun _ => 0)), (zaI bE_17 cbE_21 10 (fun _ => 0)), (zaI bC_18 cbC_22 100 (fun _ => 0)), (zo10ririliiriririr q_23 aTp_26 0 aHl_31 0 0 0 0 aHs_27 0 aWk_28 0 aBk_29 0 aFc_30), (zaI aTp_26 cTp_32 100 (fun _ => 0)), (zaR aHs_27 cHs_33 8 (fun _ => none)), (zaI aWk_28 cWk_34 6 (fun _ => 0)), (zaI aBk_29 cBk_35 12 (fun _ => 0)), (zaI aFc_30 cFc_36 6 (fun _ => 0)), (zo7iirrrriniii aHl_31 3 0 bW_37 bA_38 bE_39 bC_40 0 0 0 0), (zaI bW_37 cbW_41 10 (fun _ => 0)), (zaI bA_38 cbA_42 10 (fun _ => 0)), (zaI bE_39 cbE_43 10 (fun _ => 0)), (zaI bC_40 cbC_44 100 (fun _ => 0)), (zo7iirrrriniii q_45 3 0 bW_48 bA_49 bE_50 bC_51 0 0 0 0), (zaI bW_48 cbW_52 10 (fun _ => 0)), (zaI bA_49 cbA_53 10 (fun _ => 0)), (zaI bE_50 cbE_54 10 (fun _ => 0)), (zaI bC_51 cbC_55 100 (fun _ => 0)), (zo4nnin q_56 0)] := hD
  refine W.widen (k := 28) (n := 719) (by omega) (by omega) ?_
  refine lv_dup hx hb dX11_init_46 rfl ?_
  have hPc := hP.sub (ws' := [(zo4nnin q_56 0)]) [28] rfl
  have hDc := hD.sub (ws' := [(zo4nnin q_56 0)]) [28] (by decide) rfl
  have hKc := hK.sub (tys' := []) [] rfl
  have hFc := va_free (wc := [(zo4nnin q_56 0)]) hD hS hA [28] rfl
  refine va_callv (va_runI (As := []) (rest := [.ref q_56, .ref h0]) ⟨hx, hb, hml, hown, hts⟩ (c_goingsInit l dC dI q_56 H.size) (cwI 0 hts ggX11_init_X2_init rfl rfl rfl (hts (.initialized RX2) kc_classInit_23) (hts (.methodLink RX11 34 yX2_init) kc_classInit_24) (hts (.instanceMethod yX2_init) kc_classInit_25) rfl (by decide +kernel) ⟨Nat.le_of_ble_eq_true rfl, Nat.le_of_ble_eq_true rfl⟩) ⟨fun a U g mk q => by obtain ⟨q0, q1, qP, qK, qD⟩ := q; exact ⟨q0, mvz g mk a q1, mvP g mk a qP, mvK g mk a qK, qD⟩, fun U hU hW => ⟨rfl, by rw [hU], by rw [hU]; exact hPc, va_K.moved hW.alike hKc, hDc.weaken (fun _ _ _ _ => trivial)⟩⟩ rfl rfl hl.1 rfl (lv_room (Nat.le_of_ble_eq_true rfl)) dX11_init_47 ⟨Nat.le_of_ble_eq_true rfl, Nat.le_of_ble_eq_true rfl⟩) hS (fun q _ h => hFc q h) hFc (fun u tC H1 locs htC hvm hw_58 hB hz1 hk1 hS => ?_)
  obtain ⟨⟩ := u
  try dsimp only at hw_58 hB
  obtain ⟨gR_59, gO_60, gS_61, cR_62, cO_63, hP1, hK1, hD1⟩ := hB
  rw [htC] at hP1
  have hK1 := va_K.moved hvm.symm hK1
  obtain ⟨hP, hD⟩ := va_join (wr := [(zo13rrirnnn h0 q_1 q_23 0 q_45), (zo10ririliiriririr q_1 aTp_4 0 aHl_9 0 0 0 0 aHs_5 0 aWk_6 0 aBk_7 0 aFc_8), (zaI aTp_4 cTp_10 100 (fun _ => 0)), (zaR aHs_5 cHs_11 8 (fun _ => none)), (zaI aWk_6 cWk_12 6 (fun _ => 0)), (zaI aBk_7 cBk_13 12 (fun _ => 0)), (zaI aFc_8 cFc_14 6 (fun _ => 0)), (zo7iirrrriniii aHl_9 3 0 bW_15 bA_16 bE_17 bC_18 0 0 0 0), (zaI bW_15 cbW_19 10 (fun _ => 0)), (zaI bA_16 cbA_20 10 (fun _ => 0)), (zaI bE_17 cbE_21 10 (fun _ => 0)), (zaI bC_18 cbC_22 100 (fun _ => 0)), (zo10ririliiriririr q_23 aTp_26 0 aHl_31 0 0 0 0 aHs_27 0 aWk_28 0 aBk_29 0 aFc_30), (zaI aTp_26 cTp_32 100 (fun _ => 0)), (zaR aHs_27 cHs_33 8 (fun _ => none)), (zaI aWk_28 cWk_34 6 (fun _ => 0)), (zaI aBk_29 cBk_35 12 (fun _ => 0)), (zaI aFc_30 cFc_36 6 (fun _ => 0)), (zo7iirrrriniii aHl_31 3 0 bW_37 bA_38 bE_39 bC_40 0 0 0 0), (zaI bW_37 cbW_41 10 (fun _ => 0)), (zaI bA_38 cbA_42 10 (fun _ => 0)), (zaI bE_39 cbE_43 10 (fun _ => 0)), (zaI bC_40 cbC_44 100 (fun _ => 0)), (zo7iirrrriniii q_45 3 0 bW_48 bA_49 bE_50 bC_51 0 0 0 0), (zaI bW_48 cbW_52 10 (fun _ => 0)), (zaI bA_49 cbA_53 10 (fun _ => 0)), (zaI bE_50 cbE_54 10 (fun _ => 0)), (zaI bC_51 cbC_55 100 (fun _ => 0))]) (w1 := [(zo4rrir q_56 gR_59 gO_60 0 gS_61), (zaI gR_59 cR_62 8 (fun _ => 0)), (zaI gO_60 cO_63 8 (fun _ => 0)), (zo5iiii gS_61 0 0 0 0)]) hP hD [28] [0, 1, 2, 3, 4, 5, 6, 7, 8, 9, 10, 11, 12, 13, 14, 15, 16, 17, 18, 19, 20, 21, 22, 23, 24, 25, 26, 27] rfl rfl (by decide) (by decide) hk1 hFc hP1 hD1
  have hK := (hK.sub (tys' := [(cTp_10, .int), (cHs_11, .object "MistHeaps$Heap"), (cWk_12, .int), (cBk_13, .int), (cFc_14, .int), (cbW_19, .int), (cbA_20, .int), (cbE_21, .int), (cbC_22, .int), (cTp_32, .int), (cHs_33, .object "MistHeaps$Heap"), (cWk_34, .int), (cBk_35, .int), (cFc_36, .int), (cbW_41, .int), (cbA_42, .int), (cbE_43, .int), (cbC_44, .int), (cbW_52, .int), (cbA_53, .int), (cbE_54, .int), (cbC_55, .int)]) [0, 1, 2, 3, 4, 5, 6, 7, 8, 9, 10, 11, 12, 13, 14, 15, 16, 17, 18, 19, 20, 21] rfl).app hK1
  generalize H1 = H at hP hS ⊢
  have hP : va_P (dC, dI) vwCl [(zo13rrirnnn h0 q_1 q_23 0 q_45), (zo10ririliiriririr q_1 aTp_4 0 aHl_9 0 0 0 0 aHs_5 0 aWk_6 0 aBk_7 0 aFc_8), (zaI aTp_4 cTp_10 100 (fun _ => 0)), (zaR aHs_5 cHs_11 8 (fun _ => none)), (zaI aWk_6 cWk_12 6 (fun _ => 0)), (zaI aBk_7 cBk_13 12 (fun _ => 0)), (zaI aFc_8 cFc_14 6 (fun _ => 0)), (zo7iirrrriniii aHl_9 3 0 bW_15 bA_16 bE_17 bC_18 0 0 0 0), (zaI bW_15 cbW_19 10 (fun _ => 0)), (zaI bA_16 cbA_20 10 (fun _ => 0)), (zaI bE_17 cbE_21 10 (fun _ => 0)), (zaI bC_18 cbC_22 100 (fun _ => 0)), (zo10ririliiriririr q_23 aTp_26 0 aHl_31 0 0 0 0 aHs_27 0 aWk_28 0 aBk_29 0 aFc_30), (zaI aTp_26 cTp_32 100 (fun _ => 0)), (zaR aHs_27 cHs_33 8 (fun _ => none)), (zaI aWk_28 cWk_34 6 (fun _ => 0)), (zaI aBk_29 cBk_35 12 (fun _ => 0)), (zaI aFc_30 cFc_36 6 (fun _ => 0)), (zo7iirrrriniii aHl_31 3 0 bW_37 bA_38 bE_39 bC_40 0 0 0 0), (zaI bW_37 cbW_41 10 (fun _ => 0)), (zaI bA_38 cbA_42 10 (fun _ => 0)), (zaI bE_39 cbE_43 10 (fun _ => 0)), (zaI bC_40 cbC_44 100 (fun _ => 0)), (zo7iirrrriniii q_45 3 0 bW_48 bA_49 bE_50 bC_51 0 0 0 0), (zaI bW_48 cbW_52 10 (fun _ => 0)), (zaI bA_49 cbA_53 10 (fun _ => 0)), (zaI bE_50 cbE_54 10 (fun _ => 0)), (zaI bC_51 cbC_55 100 (fun _ => 0)), (zo4rrir q_56 gR_59 gO_60 0 gS_61), (zaI gR_59 cR_62 8 (fun _ => 0)), (zaI gO_60 cO_63 8 (fun _ => 0)), (zo5iiii gS_61 0 0 0 0)] H := hP
  have hD : va_D A [(zo13rrirnnn h0 q_1 q_23 0 q_45), (zo10ririliiriririr q_1 aTp_4 0 aHl_9 0 0 0 0 aHs_5 0 aWk_6 0 aBk_7 0 aFc_8), (zaI aTp_4 cTp_10 100 (fun _ => 0)), (zaR aHs_5 cHs_11 8 (fun _ => none)), (zaI aWk_6 cWk_12 6 (fun _ => 0)), (zaI aBk_7 cBk_13 12 (fun _ => 0)), (zaI aFc_8 cFc_14 6 (fun _ => 0)), (zo7iirrrriniii aHl_9 3 0 bW_15 bA_16 bE_17 bC_18 0 0 0 0), (zaI bW_15 cbW_19 10 (fun _ => 0)), (zaI bA_16 cbA_20 10 (fun _ => 0)), (zaI bE_17 cbE_21 10 (fun _ => 0)), (zaI bC_18 cbC_22 100 (fun _ => 0)), (zo10ririliiriririr q_23 aTp_26 0 aHl_31 0 0 0 0 aHs_27 0 aWk_28 0 aBk_29 0 aFc_30), (zaI aTp_26 cTp_32 100 (fun _ => 0)), (zaR aHs_27 cHs_33 8 (fun _ => none)), (zaI aWk_28 cWk_34 6 (fun _ => 0)), (zaI aBk_29 cBk_35 12 (fun _ => 0)), (zaI aFc_30 cFc_36 6 (fun _ => 0)), (zo7iirrrriniii aHl_31 3 0 bW_37 bA_38 bE_39 bC_40 0 0 0 0), (zaI bW_37 cbW_41 10 (fun _ => 0)), (zaI bA_38 cbA_42 10 (fun _ => 0)), (zaI bE_39 cbE_43 10 (fun _ => 0)), (zaI bC_40 cbC_44 100 (fun _ => 0)), (zo7iirrrriniii q_45 3 0 bW_48 bA_49 bE_50 bC_51 0 0 0 0), (zaI bW_48 cbW_52 10 (fun _ => 0)), (zaI bA_49 cbA_53 10 (fun _ => 0)), (zaI bE_50 cbE_54 10 (fun _ => 0)), (zaI bC_51 cbC_55 100 (fun _ => 0)), (zo4rrir q_56 gR_59 gO_60 0 gS_61), (zaI gR_59 cR_62 8 (fun _ => 0)), (zaI gO_60 cO_63 8 (fun _ => 0)), (zo5iiii gS_61 0 0 0 0)] := hD
  have hK : va_K (dC, dI) vwCl [(cTp_10, .int), (cHs_11, .object "MistHeaps$Heap"), (cWk_12, .int), (cBk_13, .int), (cFc_14, .int), (cbW_19, .int), (cbA_20, .int), (cbE_21, .int), (cbC_22, .int), (cTp_32, .int), (cHs_33, .object "MistHeaps$Heap"), (cWk_34, .int), (cBk_35, .int), (cFc_36, .int), (cbW_41, .int), (cbA_42, .int), (cbE_43, .int), (cbC_44, .int), (cbW_52, .int), (cbA_53, .int), (cbE_54, .int), (cbC_55, .int), (cR_62, .int), (cO_63, .int)] s := hK
  refine W.widen (k := 31) (n := 739) (by omega) (by omega) ?_
  refine va_putF (D := (dC, dI)) (ci := 13) (v := .ref q_56) (ty := .object "MistHeaps$Goings") (C := RX11) (T := TX11) (N := 7) hx hb hts kc_classInit_9 tyX11 tyX11_ok nmX11 hown hK hP hD hS 0 rfl rfl 4 (by decide) (hts (.fieldLink RX11 35 "MistHeaps" "goings" "LMistHeaps$Goings;") kc_classInit_26) (fun _ h9 => h9) rfl hin rfl (by decide +kernel) rfl rfl (Nat.le_of_ble_eq_true rfl) dX11_init_50 (fun H locs hP hD hS => ?_)
  have hP : va_P (dC, dI) vwCl [(zo13rrirrnn h0 q_1 q_23 0 q_45 q_56), (zo10ririliiriririr q_1 aTp_4 0 aHl_9 0 0 0 0 aHs_5 0 aWk_6 0 aBk_7 0 aFc_8), (zaI aTp_4 cTp_10 100 (fun _ => 0)), (zaR aHs_5 cHs_11 8 (fun _ => none)), (zaI aWk_6 cWk_12 6 (fun _ => 0)), (zaI aBk_7 cBk_13 12 (fun _ => 0)), (zaI aFc_8 cFc_14 6 (fun _ => 0)), (zo7iirrrriniii aHl_9 3 0 bW_15 bA_16 bE_17 bC_18 0 0 0 0), (zaI bW_15 cbW_19 10 (fun _ => 0)), (zaI bA_16 cbA_20 10 (fun _ => 0)), (zaI bE_17 cbE_21 10 (fun _ => 0)), (zaI bC_18 cbC_22 100 (fun _ => 0)), (zo10ririliiriririr q_23 aTp_26 0 aHl_31 0 0 0 0 aHs_27 0 aWk_28 0 aBk_29 0 aFc_30), (zaI aTp_26 cTp_32 100 (fun _ => 0)), (zaR aHs_27 cHs_33 8 (fun _ => none)), (zaI aWk_28 cWk_34 6 (fun _ => 0)), (zaI aBk_29 cBk_35 12 (fun _ => 0)), (zaI aFc_30 cFc_36 6 (fun _ => 0)), (zo7iirrrriniii aHl_31 3 0 bW_37 bA_38 bE_39 bC_40 0 0 0 0), (zaI bW_37 cbW_41 10 (fun _ => 0)), (zaI bA_38 cbA_42 10 (fun _ => 0)), (zaI bE_39 cbE_43 10 (fun _ => 0)), (zaI bC_40 cbC_44 100 (fun _ => 0)), (zo7iirrrriniii q_45 3 0 bW_48 bA_49 bE_50 bC_51 0 0 0 0), (zaI bW_48 cbW_52 10 (fun _ => 0)), (zaI bA_49 cbA_53 10 (fun _ => 0)), (zaI bE_50 cbE_54 10 (fun _ => 0)), (zaI bC_51 cbC_55 100 (fun _ => 0)), (zo4rrir q_56 gR_59 gO_60 0 gS_61), (zaI gR_59 cR_62 8 (fun _ => 0)), (zaI gO_60 cO_63 8 (fun _ => 0)), (zo5iiii gS_61 0 0 0 0)] H := hP
  have hD : va_D A [(zo13rrirrnn h0 q_1 q_23 0 q_45 q_56), (zo10ririliiriririr q_1 aTp_4 0 aHl_9 0 0 0 0 aHs_5 0 aWk_6 0 aBk_7 0 aFc_8), (zaI aTp_4 cTp_10 100 (fun _ => 0)), (zaR aHs_5 cHs_11 8 (fun _ => none)), (zaI aWk_6 cWk_12 6 (fun _ => 0)), (zaI aBk_7 cBk_13 12 (fun _ => 0)), (zaI aFc_8 cFc_14 6 (fun _ => 0)), (zo7iirrrriniii aHl_9 3 0 bW_15 bA_16 bE_17 bC_18 0 0 0 0), (zaI bW_15 cbW_19 10 (fun _ => 0)), (zaI bA_16 cbA_20 10 (fun _ => 0)), (zaI bE_17 cbE_21 10 (fun _ => 0)), (zaI bC_18 cbC_22 100 (fun _ => 0)), (zo10ririliiriririr q_23 aTp_26 0 aHl_31 0 0 0 0 aHs_27 0 aWk_28 0 aBk_29 0 aFc_30), (zaI aTp_26 cTp_32 100 (fun _ => 0)), (zaR aHs_27 cHs_33 8 (fun _ => none)), (zaI aWk_28 cWk_34 6 (fun _ => 0)), (zaI aBk_29 cBk_35 12 (fun _ => 0)), (zaI aFc_30 cFc_36 6 (fun _ => 0)), (zo7iirrrriniii aHl_31 3 0 bW_37 bA_38 bE_39 bC_40 0 0 0 0), (zaI bW_37 cbW_41 10 (fun _ => 0)), (zaI bA_38 cbA_42 10 (fun _ => 0)), (zaI bE_39 cbE_43 10 (fun _ => 0)), (zaI bC_40 cbC_44 100 (fun _ => 0)), (zo7iirrrriniii q_45 3 0 bW_48 bA_49 bE_50 bC_51 0 0 0 0), (zaI bW_48 cbW_52 10 (fun _ => 0)), (zaI bA_49 cbA_53 10 (fun _ => 0)), (zaI bE_50 cbE_54 10 (fun _ => 0)), (zaI bC_51 cbC_55 100 (fun _ => 0)), (zo4rrir q_56 gR_59 gO_60 0 gS_61), (zaI gR_59 cR_62 8 (fun _ => 0)), (zaI gO_60 cO_63 8 (fun _ => 0)), (zo5iiii gS_61 0 0 0 0)] := hD
  refine lv_aload_n hx hb dX11_init_53 rfl (lv_at hl 0 rfl) ?_
  refine va_new (ci := 2) (fs := [.long 0, .int 0, .null, .null, .null]) (C := RX0) (T := TX0) (N := 5) hx hb hts kc_classInit_27 tyX0 tyX0_ok hown (hts (.classLink RX11 39 RX0) kc_classInit_28) (hts (.instantiable RX0 5) kc_classInit_29) (hts (.initialized RX0) kc_classInit_30) hK hP hD hS hA rfl (fun j hj => by rcases (show j = 0 ∨ j = 1 ∨ j = 2 ∨ j = 3 ∨ j = 4 by omega) with rfl | rfl | rfl | rfl | rfl <;> rfl) (Nat.le_of_ble_eq_true rfl) (Nat.le_of_ble_eq_true rfl) dX11_init_54 (fun q_64 H hP hD hS => ?_)
  have hP : va_P (dC, dI) vwCl [(zo13rrirrnn h0 q_1 q_23 0 q_45 q_56), (zo10ririliiriririr q_1 aTp_4 0 aHl_9 0 0 0 0 aHs_5 0 aWk_6 0 aBk_7 0 aFc_8), (zaI aTp_4 cTp_10 100 (fun _ => 0)), (zaR aHs_5 cHs_11 8 (fun _ => none)), (zaI aWk_6 cWk_12 6 (fun _ => 0)), (zaI aBk_7 cBk_13 12 (fun _ => 0)), (zaI aFc_8 cFc_14 6 (fun _ => 0)), (zo7iirrrriniii aHl_9 3 0 bW_15 bA_16 bE_17 bC_18 0 0 0 0), (zaI bW_15 cbW_19 10 (fun _ => 0)), (zaI bA_16 cbA_20 10 (fun _ => 0)), (zaI bE_17 cbE_21 10 (fun _ => 0)), (zaI bC_18 cbC_22 100 (fun _ => 0)), (zo10ririliiriririr q_23 aTp_26 0 aHl_31 0 0 0 0 aHs_27 0 aWk_28 0 aBk_29 0 aFc_30), (zaI aTp_26 cTp_32 100 (fun _ => 0)), (zaR aHs_27 cHs_33 8 (fun _ => none)), (zaI aWk_28 cWk_34 6 (fun _ => 0)), (zaI aBk_29 cBk_35 12 (fun _ => 0)), (zaI aFc_30 cFc_36 6 (fun _ => 0)), (zo7iirrrriniii aHl_31 3 0 bW_37 bA_38 bE_39 bC_40 0 0 0 0), (zaI bW_37 cbW_41 10 (fun _ => 0)), (zaI bA_38 cbA_42 10 (fun _ => 0)), (zaI bE_39 cbE_43 10 (fun _ => 0)), (zaI bC_40 cbC_44 100 (fun _ => 0)), (zo7iirrrriniii q_45 3 0 bW_48 bA_49 bE_50 bC_51 0 0 0 0), (zaI bW_48 cbW_52 10 (fun _ => 0)), (zaI bA_49 cbA_53 10 (fun _ => 0)), (zaI bE_50 cbE_54 10 (fun _ => 0)), (zaI bC_51 cbC_55 100 (fun _ => 0)), (zo4rrir q_56 gR_59 gO_60 0 gS_61), (zaI gR_59 cR_62 8 (fun _ => 0)), (zaI gO_60 cO_63 8 (fun _ => 0)), (zo5iiii gS_61 0 0 0 0), (zo2linnn q_64 0 0)] H := hP
  have hD : va_D A [(zo13rrirrnn h0 q_1 q_23 0 q_45 q_56), (zo10ririliiriririr q_1 aTp_4 0 aHl_9 0 0 0 0 aHs_5 0 aWk_6 0 aBk_7 0 aFc_8), (zaI aTp_4 cTp_10 100 (fun _ => 0)), (zaR aHs_5 cHs_11 8 (fun _ => none)), (zaI aWk_6 cWk_12 6 (fun _ => 0)), (zaI aBk_7 cBk_13 12 (fun _ => 0)), (zaI aFc_8 cFc_14 6 (fun _ => 0)), (zo7iirrrriniii aHl_9 3 0 bW_15 bA_16 bE_17 bC_18 0 0 0 0), (zaI bW_15 cbW_19 10 (fun _ => 0)), (zaI bA_16 cbA_20 10 (fun _ => 0)), (zaI bE_17 cbE_21 10 (fun _ => 0)), (zaI bC_18 cbC_22 100 (fun _ => 0)), (zo10ririliiriririr q_23 aTp_26 0 aHl_31 0 0 0 0 aHs_27 0 aWk_28 0 aBk_29 0 aFc_30), (zaI aTp_26 cTp_32 100 (fun _ => 0)), (zaR aHs_27 cHs_33 8 (fun _ => none)), (zaI aWk_28 cWk_34 6 (fun _ => 0)), (zaI aBk_29 cBk_35 12 (fun _ => 0)), (zaI aFc_30 cFc_36 6 (fun _ => 0)), (zo7iirrrriniii aHl_31 3 0 bW_37 bA_38 bE_39 bC_40 0 0 0 0), (zaI bW_37 cbW_41 10 (fun _ => 0)), (zaI bA_38 cbA_42 10 (fun _ => 0)), (zaI bE_39 cbE_43 10 (fun _ => 0)), (zaI bC_40 cbC_44 100 (fun _ => 0)), (zo7iirrrriniii q_45 3 0 bW_48 bA_49 bE_50 bC_51 0 0 0 0), (zaI bW_48 cbW_52 10 (fun _ => 0)), (zaI bA_49 cbA_53 10 (fun _ => 0)), (zaI bE_50 cbE_54 10 (fun _ => 0)), (zaI bC_51 cbC_55 100 (fun _ => 0)), (zo4rrir q_56 gR_59 gO_60 0 gS_61), (zaI gR_59 cR_62 8 (fun _ => 0)), (zaI gO_60 cO_63 8 (fun _ => 0)), (zo5iiii gS_61 0 0 0 0), (zo2linnn q_64 0 0)] := hD
  refine W.widen (k := 32) (n := 744) (by omega) (by omega) ?_
  refine lv_dup hx hb dX11_init_57 rfl ?_
  have hPc := hP.sub (ws' := [(zo2linnn q_64 0 0)]) [32] rfl
  have hDc := hD.sub (ws' := [(zo2linnn q_64 0 0)]) [32] (by decide) rfl
  have hKc := hK.sub (tys' := []) [] rfl
  have hFc := va_free (wc := [(zo2linnn q_64 0 0)]) hD hS hA [32] rfl
  refine va_callv (va_runI (As := []) (rest := [.ref q_64, .ref h0]) ⟨hx, hb, hml, hown, hts⟩ (c_chancesInit l dC dI bS q_64 H.size) (cwI 0 hts ggX11_init_X0_init rfl rfl rfl (hts (.initialized RX0) kc_classInit_30) (hts (.methodLink RX11 41 yX0_init) kc_classInit_31) (hts (.instanceMethod yX0_init) kc_classInit_32) rfl (by decide +kernel) ⟨Nat.le_of_ble_eq_true rfl, Nat.le_of_ble_eq_true rfl⟩) ⟨fun a U g mk q => by obtain ⟨q0, q1, qP, qK, qD, qhC⟩ := q; exact ⟨q0, mvz g mk a q1, mvP g mk a qP, mvK g mk a qK, qD, qhC.mv g mk a⟩, fun U hU hW => ⟨rfl, by rw [hU], by rw [hU]; exact hPc, va_K.moved hW.alike hKc, hDc.weaken (fun _ _ _ _ => trivial), hC.call hS hU hW (fun q h => hFc q h)⟩⟩ rfl rfl hl.1 rfl (lv_room (Nat.le_of_ble_eq_true rfl)) dX11_init_58 ⟨Nat.le_of_ble_eq_true rfl, Nat.le_of_ble_eq_true rfl⟩) hS (fun q _ h => hFc q h) hFc (fun u tC H1 locs htC hvm hw_66 hB hz1 hk1 hS => ?_)
  obtain ⟨⟩ := u
  try dsimp only at hw_66 hB
  obtain ⟨dr_67, tO_68, hO_69, rt_70, rh_71, cD_72, cTO_73, cHO_74, cT_75, cH_76, hP1, hK1, hD1⟩ := hB
  rw [htC] at hP1
  have hK1 := va_K.moved hvm.symm hK1
  obtain ⟨hP, hD⟩ := va_join (wr := [(zo13rrirrnn h0 q_1 q_23 0 q_45 q_56), (zo10ririliiriririr q_1 aTp_4 0 aHl_9 0 0 0 0 aHs_5 0 aWk_6 0 aBk_7 0 aFc_8), (zaI aTp_4 cTp_10 100 (fun _ => 0)), (zaR aHs_5 cHs_11 8 (fun _ => none)), (zaI aWk_6 cWk_12 6 (fun _ => 0)), (zaI aBk_7 cBk_13 12 (fun _ => 0)), (zaI aFc_8 cFc_14 6 (fun _ => 0)), (zo7iirrrriniii aHl_9 3 0 bW_15 bA_16 bE_17 bC_18 0 0 0 0), (zaI bW_15 cbW_19 10 (fun _ => 0)), (zaI bA_16 cbA_20 10 (fun _ => 0)), (zaI bE_17 cbE_21 10 (fun _ => 0)), (zaI bC_18 cbC_22 100 (fun _ => 0)), (zo10ririliiriririr q_23 aTp_26 0 aHl_31 0 0 0 0 aHs_27 0 aWk_28 0 aBk_29 0 aFc_30), (zaI aTp_26 cTp_32 100 (fun _ => 0)), (zaR aHs_27 cHs_33 8 (fun _ => none)), (zaI aWk_28 cWk_34 6 (fun _ => 0)), (zaI aBk_29 cBk_35 12 (fun _ => 0)), (zaI aFc_30 cFc_36 6 (fun _ => 0)), (zo7iirrrriniii aHl_31 3 0 bW_37 bA_38 bE_39 bC_40 0 0 0 0), (zaI bW_37 cbW_41 10 (fun _ => 0)), (zaI bA_38 cbA_42 10 (fun _ => 0)), (zaI bE_39 cbE_43 10 (fun _ => 0)), (zaI bC_40 cbC_44 100 (fun _ => 0)), (zo7iirrrriniii q_45 3 0 bW_48 bA_49 bE_50 bC_51 0 0 0 0), (zaI bW_48 cbW_52 10 (fun _ => 0)), (zaI bA_49 cbA_53 10 (fun _ => 0)), (zaI bE_50 cbE_54 10 (fun _ => 0)), (zaI bC_51 cbC_55 100 (fun _ => 0)), (zo4rrir q_56 gR_59 gO_60 0 gS_61), (zaI gR_59 cR_62 8 (fun _ => 0)), (zaI gO_60 cO_63 8 (fun _ => 0)), (zo5iiii gS_61 0 0 0 0)]) (w1 := [(zo2lirrr q_64 0 0 dr_67 tO_68 hO_69), (zaI dr_67 cD_72 36 (fun _ => 0)), (zaR tO_68 cTO_73 3 (fun i => if i < 3 then some (rt_70 i) else none)), (zaL (rt_70 0) cT_75 36 (fun _ => 0)), (zaL (rt_70 1) cT_75 36 (fun _ => 0)), (zaL (rt_70 2) cT_75 36 (fun _ => 0)), (zaR hO_69 cHO_74 8 (fun i => if i < 8 then some (rh_71 i) else none)), (zaI (rh_71 0) cH_76 36 (fun _ => 0)), (zaI (rh_71 1) cH_76 36 (fun _ => 0)), (zaI (rh_71 2) cH_76 36 (fun _ => 0)), (zaI (rh_71 3) cH_76 36 (fun _ => 0)), (zaI (rh_71 4) cH_76 36 (fun _ => 0)), (zaI (rh_71 5) cH_76 36 (fun _ => 0)), (zaI (rh_71 6) cH_76 36 (fun _ => 0)), (zaI (rh_71 7) cH_76 36 (fun _ => 0))]) hP hD [32] [0, 1, 2, 3, 4, 5, 6, 7, 8, 9, 10, 11, 12, 13, 14, 15, 16, 17, 18, 19, 20, 21, 22, 23, 24, 25, 26, 27, 28, 29, 30, 31] rfl rfl (by decide) (by decide) hk1 hFc hP1 hD1
  have hK := (hK.sub (tys' := [(cTp_10, .int), (cHs_11, .object "MistHeaps$Heap"), (cWk_12, .int), (cBk_13, .int), (cFc_14, .int), (cbW_19, .int), (cbA_20, .int), (cbE_21, .int), (cbC_22, .int), (cTp_32, .int), (cHs_33, .object "MistHeaps$Heap"), (cWk_34, .int), (cBk_35, .int), (cFc_36, .int), (cbW_41, .int), (cbA_42, .int), (cbE_43, .int), (cbC_44, .int), (cbW_52, .int), (cbA_53, .int), (cbE_54, .int), (cbC_55, .int), (cR_62, .int), (cO_63, .int)]) [0, 1, 2, 3, 4, 5, 6, 7, 8, 9, 10, 11, 12, 13, 14, 15, 16, 17, 18, 19, 20, 21, 22, 23] rfl).app hK1
  generalize H1 = H at hP hS ⊢
  have hP : va_P (dC, dI) vwCl [(zo13rrirrnn h0 q_1 q_23 0 q_45 q_56), (zo10ririliiriririr q_1 aTp_4 0 aHl_9 0 0 0 0 aHs_5 0 aWk_6 0 aBk_7 0 aFc_8), (zaI aTp_4 cTp_10 100 (fun _ => 0)), (zaR aHs_5 cHs_11 8 (fun _ => none)), (zaI aWk_6 cWk_12 6 (fun _ => 0)), (zaI aBk_7 cBk_13 12 (fun _ => 0)), (zaI aFc_8 cFc_14 6 (fun _ => 0)), (zo7iirrrriniii aHl_9 3 0 bW_15 bA_16 bE_17 bC_18 0 0 0 0), (zaI bW_15 cbW_19 10 (fun _ => 0)), (zaI bA_16 cbA_20 10 (fun _ => 0)), (zaI bE_17 cbE_21 10 (fun _ => 0)), (zaI bC_18 cbC_22 100 (fun _ => 0)), (zo10ririliiriririr q_23 aTp_26 0 aHl_31 0 0 0 0 aHs_27 0 aWk_28 0 aBk_29 0 aFc_30), (zaI aTp_26 cTp_32 100 (fun _ => 0)), (zaR aHs_27 cHs_33 8 (fun _ => none)), (zaI aWk_28 cWk_34 6 (fun _ => 0)), (zaI aBk_29 cBk_35 12 (fun _ => 0)), (zaI aFc_30 cFc_36 6 (fun _ => 0)), (zo7iirrrriniii aHl_31 3 0 bW_37 bA_38 bE_39 bC_40 0 0 0 0), (zaI bW_37 cbW_41 10 (fun _ => 0)), (zaI bA_38 cbA_42 10 (fun _ => 0)), (zaI bE_39 cbE_43 10 (fun _ => 0)), (zaI bC_40 cbC_44 100 (fun _ => 0)), (zo7iirrrriniii q_45 3 0 bW_48 bA_49 bE_50 bC_51 0 0 0 0), (zaI bW_48 cbW_52 10 (fun _ => 0)), (zaI bA_49 cbA_53 10 (fun _ => 0)), (zaI bE_50 cbE_54 10 (fun _ => 0)), (zaI bC_51 cbC_55 100 (fun _ => 0)), (zo4rrir q_56 gR_59 gO_60 0 gS_61), (zaI gR_59 cR_62 8 (fun _ => 0)), (zaI gO_60 cO_63 8 (fun _ => 0)), (zo5iiii gS_61 0 0 0 0), (zo2lirrr q_64 0 0 dr_67 tO_68 hO_69), (zaI dr_67 cD_72 36 (fun _ => 0)), (zaR tO_68 cTO_73 3 (fun i => if i < 3 then some (rt_70 i) else none)), (zaL (rt_70 0) cT_75 36 (fun _ => 0)), (zaL (rt_70 1) cT_75 36 (fun _ => 0)), (zaL (rt_70 2) cT_75 36 (fun _ => 0)), (zaR hO_69 cHO_74 8 (fun i => if i < 8 then some (rh_71 i) else none)), (zaI (rh_71 0) cH_76 36 (fun _ => 0)), (zaI (rh_71 1) cH_76 36 (fun _ => 0)), (zaI (rh_71 2) cH_76 36 (fun _ => 0)), (zaI (rh_71 3) cH_76 36 (fun _ => 0)), (zaI (rh_71 4) cH_76 36 (fun _ => 0)), (zaI (rh_71 5) cH_76 36 (fun _ => 0)), (zaI (rh_71 6) cH_76 36 (fun _ => 0)), (zaI (rh_71 7) cH_76 36 (fun _ => 0))] H := hP
  have hD : va_D A [(zo13rrirrnn h0 q_1 q_23 0 q_45 q_56), (zo10ririliiriririr q_1 aTp_4 0 aHl_9 0 0 0 0 aHs_5 0 aWk_6 0 aBk_7 0 aFc_8), (zaI aTp_4 cTp_10 100 (fun _ => 0)), (zaR aHs_5 cHs_11 8 (fun _ => none)), (zaI aWk_6 cWk_12 6 (fun _ => 0)), (zaI aBk_7 cBk_13 12 (fun _ => 0)), (zaI aFc_8 cFc_14 6 (fun _ => 0)), (zo7iirrrriniii aHl_9 3 0 bW_15 bA_16 bE_17 bC_18 0 0 0 0), (zaI bW_15 cbW_19 10 (fun _ => 0)), (zaI bA_16 cbA_20 10 (fun _ => 0)), (zaI bE_17 cbE_21 10 (fun _ => 0)), (zaI bC_18 cbC_22 100 (fun _ => 0)), (zo10ririliiriririr q_23 aTp_26 0 aHl_31 0 0 0 0 aHs_27 0 aWk_28 0 aBk_29 0 aFc_30), (zaI aTp_26 cTp_32 100 (fun _ => 0)), (zaR aHs_27 cHs_33 8 (fun _ => none)), (zaI aWk_28 cWk_34 6 (fun _ => 0)), (zaI aBk_29 cBk_35 12 (fun _ => 0)), (zaI aFc_30 cFc_36 6 (fun _ => 0)), (zo7iirrrriniii aHl_31 3 0 bW_37 bA_38 bE_39 bC_40 0 0 0 0), (zaI bW_37 cbW_41 10 (fun _ => 0)), (zaI bA_38 cbA_42 10 (fun _ => 0)), (zaI bE_39 cbE_43 10 (fun _ => 0)), (zaI bC_40 cbC_44 100 (fun _ => 0)), (zo7iirrrriniii q_45 3 0 bW_48 bA_49 bE_50 bC_51 0 0 0 0), (zaI bW_48 cbW_52 10 (fun _ => 0)), (zaI bA_49 cbA_53 10 (fun _ => 0)), (zaI bE_50 cbE_54 10 (fun _ => 0)), (zaI bC_51 cbC_55 100 (fun _ => 0)), (zo4rrir q_56 gR_59 gO_60 0 gS_61), (zaI gR_59 cR_62 8 (fun _ => 0)), (zaI gO_60 cO_63 8 (fun _ => 0)), (zo5iiii gS_61 0 0 0 0), (zo2lirrr q_64 0 0 dr_67 tO_68 hO_69), (zaI dr_67 cD_72 36 (fun _ => 0)), (zaR tO_68 cTO_73 3 (fun i => if i < 3 then some (rt_70 i) else none)), (zaL (rt_70 0) cT_75 36 (fun _ => 0)), (zaL (rt_70 1) cT_75 36 (fun _ => 0)), (zaL (rt_70 2) cT_75 36 (fun _ => 0)), (zaR hO_69 cHO_74 8 (fun i => if i < 8 then some (rh_71 i) else none)), (zaI (rh_71 0) cH_76 36 (fun _ => 0)), (zaI (rh_71 1) cH_76 36 (fun _ => 0)), (zaI (rh_71 2) cH_76 36 (fun _ => 0)), (zaI (rh_71 3) cH_76 36 (fun _ => 0)), (zaI (rh_71 4) cH_76 36 (fun _ => 0)), (zaI (rh_71 5) cH_76 36 (fun _ => 0)), (zaI (rh_71 6) cH_76 36 (fun _ => 0)), (zaI (rh_71 7) cH_76 36 (fun _ => 0))] := hD
  have hK : va_K (dC, dI) vwCl [(cTp_10, .int), (cHs_11, .object "MistHeaps$Heap"), (cWk_12, .int), (cBk_13, .int), (cFc_14, .int), (cbW_19, .int), (cbA_20, .int), (cbE_21, .int), (cbC_22, .int), (cTp_32, .int), (cHs_33, .object "MistHeaps$Heap"), (cWk_34, .int), (cBk_35, .int), (cFc_36, .int), (cbW_41, .int), (cbA_42, .int), (cbE_43, .int), (cbC_44, .int), (cbW_52, .int), (cbA_53, .int), (cbE_54, .int), (cbC_55, .int), (cR_62, .int), (cO_63, .int), (cD_72, .int), (cTO_73, .array .long), (cT_75, .long), (cT_75, .long), (cT_75, .long), (cHO_74, .array .int), (cH_76, .int), (cH_76, .int), (cH_76, .int), (cH_76, .int), (cH_76, .int), (cH_76, .int), (cH_76, .int), (cH_76, .int)] s := hK
  refine W.widen (k := 46) (n := 1187) (by omega) (by omega) ?_
  refine va_putF (D := (dC, dI)) (ci := 13) (v := .ref q_64) (ty := .object "MistHeaps$Chances") (C := RX11) (T := TX11) (N := 7) hx hb hts kc_classInit_9 tyX11 tyX11_ok nmX11 hown hK hP hD hS 0 rfl rfl 5 (by decide) (hts (.fieldLink RX11 42 "MistHeaps" "chances" "LMistHeaps$Chances;") kc_classInit_33) (fun _ h9 => h9) rfl hin rfl (by decide +kernel) rfl rfl (Nat.le_of_ble_eq_true rfl) dX11_init_61 (fun H locs hP hD hS => ?_)
  have hP : va_P (dC, dI) vwCl [(zo13rrirrrn h0 q_1 q_23 0 q_45 q_56 q_64), (zo10ririliiriririr q_1 aTp_4 0 aHl_9 0 0 0 0 aHs_5 0 aWk_6 0 aBk_7 0 aFc_8), (zaI aTp_4 cTp_10 100 (fun _ => 0)), (zaR aHs_5 cHs_11 8 (fun _ => none)), (zaI aWk_6 cWk_12 6 (fun _ => 0)), (zaI aBk_7 cBk_13 12 (fun _ => 0)), (zaI aFc_8 cFc_14 6 (fun _ => 0)), (zo7iirrrriniii aHl_9 3 0 bW_15 bA_16 bE_17 bC_18 0 0 0 0), (zaI bW_15 cbW_19 10 (fun _ => 0)), (zaI bA_16 cbA_20 10 (fun _ => 0)), (zaI bE_17 cbE_21 10 (fun _ => 0)), (zaI bC_18 cbC_22 100 (fun _ => 0)), (zo10ririliiriririr q_23 aTp_26 0 aHl_31 0 0 0 0 aHs_27 0 aWk_28 0 aBk_29 0 aFc_30), (zaI aTp_26 cTp_32 100 (fun _ => 0)), (zaR aHs_27 cHs_33 8 (fun _ => none)), (zaI aWk_28 cWk_34 6 (fun _ => 0)), (zaI aBk_29 cBk_35 12 (fun _ => 0)), (zaI aFc_30 cFc_36 6 (fun _ => 0)), (zo7iirrrriniii aHl_31 3 0 bW_37 bA_38 bE_39 bC_40 0 0 0 0), (zaI bW_37 cbW_41 10 (fun _ => 0)), (zaI bA_38 cbA_42 10 (fun _ => 0)), (zaI bE_39 cbE_43 10 (fun _ => 0)), (zaI bC_40 cbC_44 100 (fun _ => 0)), (zo7iirrrriniii q_45 3 0 bW_48 bA_49 bE_50 bC_51 0 0 0 0), (zaI bW_48 cbW_52 10 (fun _ => 0)), (zaI bA_49 cbA_53 10 (fun _ => 0)), (zaI bE_50 cbE_54 10 (fun _ => 0)), (zaI bC_51 cbC_55 100 (fun _ => 0)), (zo4rrir q_56 gR_59 gO_60 0 gS_61), (zaI gR_59 cR_62 8 (fun _ => 0)), (zaI gO_60 cO_63 8 (fun _ => 0)), (zo5iiii gS_61 0 0 0 0), (zo2lirrr q_64 0 0 dr_67 tO_68 hO_69), (zaI dr_67 cD_72 36 (fun _ => 0)), (zaR tO_68 cTO_73 3 (fun i => if i < 3 then some (rt_70 i) else none)), (zaL (rt_70 0) cT_75 36 (fun _ => 0)), (zaL (rt_70 1) cT_75 36 (fun _ => 0)), (zaL (rt_70 2) cT_75 36 (fun _ => 0)), (zaR hO_69 cHO_74 8 (fun i => if i < 8 then some (rh_71 i) else none)), (zaI (rh_71 0) cH_76 36 (fun _ => 0)), (zaI (rh_71 1) cH_76 36 (fun _ => 0)), (zaI (rh_71 2) cH_76 36 (fun _ => 0)), (zaI (rh_71 3) cH_76 36 (fun _ => 0)), (zaI (rh_71 4) cH_76 36 (fun _ => 0)), (zaI (rh_71 5) cH_76 36 (fun _ => 0)), (zaI (rh_71 6) cH_76 36 (fun _ => 0)), (zaI (rh_71 7) cH_76 36 (fun _ => 0))] H := hP
  have hD : va_D A [(zo13rrirrrn h0 q_1 q_23 0 q_45 q_56 q_64), (zo10ririliiriririr q_1 aTp_4 0 aHl_9 0 0 0 0 aHs_5 0 aWk_6 0 aBk_7 0 aFc_8), (zaI aTp_4 cTp_10 100 (fun _ => 0)), (zaR aHs_5 cHs_11 8 (fun _ => none)), (zaI aWk_6 cWk_12 6 (fun _ => 0)), (zaI aBk_7 cBk_13 12 (fun _ => 0)), (zaI aFc_8 cFc_14 6 (fun _ => 0)), (zo7iirrrriniii aHl_9 3 0 bW_15 bA_16 bE_17 bC_18 0 0 0 0), (zaI bW_15 cbW_19 10 (fun _ => 0)), (zaI bA_16 cbA_20 10 (fun _ => 0)), (zaI bE_17 cbE_21 10 (fun _ => 0)), (zaI bC_18 cbC_22 100 (fun _ => 0)), (zo10ririliiriririr q_23 aTp_26 0 aHl_31 0 0 0 0 aHs_27 0 aWk_28 0 aBk_29 0 aFc_30), (zaI aTp_26 cTp_32 100 (fun _ => 0)), (zaR aHs_27 cHs_33 8 (fun _ => none)), (zaI aWk_28 cWk_34 6 (fun _ => 0)), (zaI aBk_29 cBk_35 12 (fun _ => 0)), (zaI aFc_30 cFc_36 6 (fun _ => 0)), (zo7iirrrriniii aHl_31 3 0 bW_37 bA_38 bE_39 bC_40 0 0 0 0), (zaI bW_37 cbW_41 10 (fun _ => 0)), (zaI bA_38 cbA_42 10 (fun _ => 0)), (zaI bE_39 cbE_43 10 (fun _ => 0)), (zaI bC_40 cbC_44 100 (fun _ => 0)), (zo7iirrrriniii q_45 3 0 bW_48 bA_49 bE_50 bC_51 0 0 0 0), (zaI bW_48 cbW_52 10 (fun _ => 0)), (zaI bA_49 cbA_53 10 (fun _ => 0)), (zaI bE_50 cbE_54 10 (fun _ => 0)), (zaI bC_51 cbC_55 100 (fun _ => 0)), (zo4rrir q_56 gR_59 gO_60 0 gS_61), (zaI gR_59 cR_62 8 (fun _ => 0)), (zaI gO_60 cO_63 8 (fun _ => 0)), (zo5iiii gS_61 0 0 0 0), (zo2lirrr q_64 0 0 dr_67 tO_68 hO_69), (zaI dr_67 cD_72 36 (fun _ => 0)), (zaR tO_68 cTO_73 3 (fun i => if i < 3 then some (rt_70 i) else none)), (zaL (rt_70 0) cT_75 36 (fun _ => 0)), (zaL (rt_70 1) cT_75 36 (fun _ => 0)), (zaL (rt_70 2) cT_75 36 (fun _ => 0)), (zaR hO_69 cHO_74 8 (fun i => if i < 8 then some (rh_71 i) else none)), (zaI (rh_71 0) cH_76 36 (fun _ => 0)), (zaI (rh_71 1) cH_76 36 (fun _ => 0)), (zaI (rh_71 2) cH_76 36 (fun _ => 0)), (zaI (rh_71 3) cH_76 36 (fun _ => 0)), (zaI (rh_71 4) cH_76 36 (fun _ => 0)), (zaI (rh_71 5) cH_76 36 (fun _ => 0)), (zaI (rh_71 6) cH_76 36 (fun _ => 0)), (zaI (rh_71 7) cH_76 36 (fun _ => 0))] := hD
  refine lv_aload_n hx hb dX11_init_64 rfl (lv_at hl 0 rfl) ?_
  refine va_new (ci := 1) (fs := [.int 0, .null, .int 0]) (C := RJx4a65c) (T := TJx4a65c) (N := 3) hx hb hts kc_classInit_34 tyJx4a65c tyJx4a65c_ok hown (hts (.classLink RX11 46 RJx4a65c) kc_classInit_35) (hts (.instantiable RJx4a65c 3) kc_classInit_36) (hts (.initialized RJx4a65c) kc_classInit_37) hK hP hD hS hA rfl (fun j hj => by rcases (show j = 0 ∨ j = 1 ∨ j = 2 by omega) with rfl | rfl | rfl <;> rfl) (Nat.le_of_ble_eq_true rfl) (Nat.le_of_ble_eq_true rfl) dX11_init_65 (fun q_77 H hP hD hS => ?_)
  have hP : va_P (dC, dI) vwCl [(zo13rrirrrn h0 q_1 q_23 0 q_45 q_56 q_64), (zo10ririliiriririr q_1 aTp_4 0 aHl_9 0 0 0 0 aHs_5 0 aWk_6 0 aBk_7 0 aFc_8), (zaI aTp_4 cTp_10 100 (fun _ => 0)), (zaR aHs_5 cHs_11 8 (fun _ => none)), (zaI aWk_6 cWk_12 6 (fun _ => 0)), (zaI aBk_7 cBk_13 12 (fun _ => 0)), (zaI aFc_8 cFc_14 6 (fun _ => 0)), (zo7iirrrriniii aHl_9 3 0 bW_15 bA_16 bE_17 bC_18 0 0 0 0), (zaI bW_15 cbW_19 10 (fun _ => 0)), (zaI bA_16 cbA_20 10 (fun _ => 0)), (zaI bE_17 cbE_21 10 (fun _ => 0)), (zaI bC_18 cbC_22 100 (fun _ => 0)), (zo10ririliiriririr q_23 aTp_26 0 aHl_31 0 0 0 0 aHs_27 0 aWk_28 0 aBk_29 0 aFc_30), (zaI aTp_26 cTp_32 100 (fun _ => 0)), (zaR aHs_27 cHs_33 8 (fun _ => none)), (zaI aWk_28 cWk_34 6 (fun _ => 0)), (zaI aBk_29 cBk_35 12 (fun _ => 0)), (zaI aFc_30 cFc_36 6 (fun _ => 0)), (zo7iirrrriniii aHl_31 3 0 bW_37 bA_38 bE_39 bC_40 0 0 0 0), (zaI bW_37 cbW_41 10 (fun _ => 0)), (zaI bA_38 cbA_42 10 (fun _ => 0)), (zaI bE_39 cbE_43 10 (fun _ => 0)), (zaI bC_40 cbC_44 100 (fun _ => 0)), (zo7iirrrriniii q_45 3 0 bW_48 bA_49 bE_50 bC_51 0 0 0 0), (zaI bW_48 cbW_52 10 (fun _ => 0)), (zaI bA_49 cbA_53 10 (fun _ => 0)), (zaI bE_50 cbE_54 10 (fun _ => 0)), (zaI bC_51 cbC_55 100 (fun _ => 0)), (zo4rrir q_56 gR_59 gO_60 0 gS_61), (zaI gR_59 cR_62 8 (fun _ => 0)), (zaI gO_60 cO_63 8 (fun _ => 0)), (zo5iiii gS_61 0 0 0 0), (zo2lirrr q_64 0 0 dr_67 tO_68 hO_69), (zaI dr_67 cD_72 36 (fun _ => 0)), (zaR tO_68 cTO_73 3 (fun i => if i < 3 then some (rt_70 i) else none)), (zaL (rt_70 0) cT_75 36 (fun _ => 0)), (zaL (rt_70 1) cT_75 36 (fun _ => 0)), (zaL (rt_70 2) cT_75 36 (fun _ => 0)), (zaR hO_69 cHO_74 8 (fun i => if i < 8 then some (rh_71 i) else none)), (zaI (rh_71 0) cH_76 36 (fun _ => 0)), (zaI (rh_71 1) cH_76 36 (fun _ => 0)), (zaI (rh_71 2) cH_76 36 (fun _ => 0)), (zaI (rh_71 3) cH_76 36 (fun _ => 0)), (zaI (rh_71 4) cH_76 36 (fun _ => 0)), (zaI (rh_71 5) cH_76 36 (fun _ => 0)), (zaI (rh_71 6) cH_76 36 (fun _ => 0)), (zaI (rh_71 7) cH_76 36 (fun _ => 0)), (zo1ini q_77 0 0)] H := hP
  have hD : va_D A [(zo13rrirrrn h0 q_1 q_23 0 q_45 q_56 q_64), (zo10ririliiriririr q_1 aTp_4 0 aHl_9 0 0 0 0 aHs_5 0 aWk_6 0 aBk_7 0 aFc_8), (zaI aTp_4 cTp_10 100 (fun _ => 0)), (zaR aHs_5 cHs_11 8 (fun _ => none)), (zaI aWk_6 cWk_12 6 (fun _ => 0)), (zaI aBk_7 cBk_13 12 (fun _ => 0)), (zaI aFc_8 cFc_14 6 (fun _ => 0)), (zo7iirrrriniii aHl_9 3 0 bW_15 bA_16 bE_17 bC_18 0 0 0 0), (zaI bW_15 cbW_19 10 (fun _ => 0)), (zaI bA_16 cbA_20 10 (fun _ => 0)), (zaI bE_17 cbE_21 10 (fun _ => 0)), (zaI bC_18 cbC_22 100 (fun _ => 0)), (zo10ririliiriririr q_23 aTp_26 0 aHl_31 0 0 0 0 aHs_27 0 aWk_28 0 aBk_29 0 aFc_30), (zaI aTp_26 cTp_32 100 (fun _ => 0)), (zaR aHs_27 cHs_33 8 (fun _ => none)), (zaI aWk_28 cWk_34 6 (fun _ => 0)), (zaI aBk_29 cBk_35 12 (fun _ => 0)), (zaI aFc_30 cFc_36 6 (fun _ => 0)), (zo7iirrrriniii aHl_31 3 0 bW_37 bA_38 bE_39 bC_40 0 0 0 0), (zaI bW_37 cbW_41 10 (fun _ => 0)), (zaI bA_38 cbA_42 10 (fun _ => 0)), (zaI bE_39 cbE_43 10 (fun _ => 0)), (zaI bC_40 cbC_44 100 (fun _ => 0)), (zo7iirrrriniii q_45 3 0 bW_48 bA_49 bE_50 bC_51 0 0 0 0), (zaI bW_48 cbW_52 10 (fun _ => 0)), (zaI bA_49 cbA_53 10 (fun _ => 0)), (zaI bE_50 cbE_54 10 (fun _ => 0)), (zaI bC_51 cbC_55 100 (fun _ => 0)), (zo4rrir q_56 gR_59 gO_60 0 gS_61), (zaI gR_59 cR_62 8 (fun _ => 0)), (zaI gO_60 cO_63 8 (fun _ => 0)), (zo5iiii gS_61 0 0 0 0), (zo2lirrr q_64 0 0 dr_67 tO_68 hO_69), (zaI dr_67 cD_72 36 (fun _ => 0)), (zaR tO_68 cTO_73 3 (fun i => if i < 3 then some (rt_70 i) else none)), (zaL (rt_70 0) cT_75 36 (fun _ => 0)), (zaL (rt_70 1) cT_75 36 (fun _ => 0)), (zaL (rt_70 2) cT_75 36 (fun _ => 0)), (zaR hO_69 cHO_74 8 (fun i => if i < 8 then some (rh_71 i) else none)), (zaI (rh_71 0) cH_76 36 (fun _ => 0)), (zaI (rh_71 1) cH_76 36 (fun _ => 0)), (zaI (rh_71 2) cH_76 36 (fun _ => 0)), (zaI (rh_71 3) cH_76 36 (fun _ => 0)), (zaI (rh_71 4) cH_76 36 (fun _ => 0)), (zaI (rh_71 5) cH_76 36 (fun _ => 0)), (zaI (rh_71 6) cH_76 36 (fun _ => 0)), (zaI (rh_71 7) cH_76 36 (fun _ => 0)), (zo1ini q_77 0 0)] := hD
  refine W.widen (k := 47) (n := 1190) (by omega) (by omega) ?_
  refine lv_dup hx hb dX11_init_68 rfl ?_
  have hPc := hP.sub (ws' := [(zo1ini q_77 0 0)]) [47] rfl
  have hDc := hD.sub (ws' := [(zo1ini q_77 0 0)]) [47] (by decide) rfl
  have hKc := hK.sub (tys' := []) [] rfl
  have hFc := va_free (wc := [(zo1ini q_77 0 0)]) hD hS hA [47] rfl
  refine va_callv (va_runI (As := []) (rest := [.ref q_77, .ref h0]) ⟨hx, hb, hml, hown, hts⟩ (c_listInit l dC dI bS q_77 H.size) (cwI 0 hts ggX11_init_Jx4a65c_init_da8c8 rfl rfl rfl (hts (.initialized RJx4a65c) kc_classInit_37) (hts (.methodLink RX11 48 yJx4a65c_init_da8c8) kc_classInit_38) (hts (.instanceMethod yJx4a65c_init_da8c8) kc_classInit_39) rfl (by decide +kernel) ⟨Nat.le_of_ble_eq_true rfl, Nat.le_of_ble_eq_true rfl⟩) ⟨fun a U g mk q => by obtain ⟨q0, q1, qP, qK, qD, qhC⟩ := q; exact ⟨q0, mvz g mk a q1, mvP g mk a qP, mvK g mk a qK, qD, qhC.mv g mk a⟩, fun U hU hW => ⟨rfl, by rw [hU], by rw [hU]; exact hPc, va_K.moved hW.alike hKc, hDc.weaken (fun _ _ _ _ => trivial), hC.call hS hU hW (fun q h => hFc q h)⟩⟩ rfl rfl hl.1 rfl (lv_room (Nat.le_of_ble_eq_true rfl)) dX11_init_69 ⟨Nat.le_of_ble_eq_true rfl, Nat.le_of_ble_eq_true rfl⟩) hS (fun q _ h => hFc q h) hFc (fun u tC H1 locs htC hvm hw_79 hB hz1 hk1 hS => ?_)
  obtain ⟨⟩ := u
  try dsimp only at hw_79 hB
  obtain ⟨hP1, hK1, hD1⟩ := hB
  rw [htC] at hP1
  have hK1 := va_K.moved hvm.symm hK1
  obtain ⟨hP, hD⟩ := va_join (wr := [(zo13rrirrrn h0 q_1 q_23 0 q_45 q_56 q_64), (zo10ririliiriririr q_1 aTp_4 0 aHl_9 0 0 0 0 aHs_5 0 aWk_6 0 aBk_7 0 aFc_8), (zaI aTp_4 cTp_10 100 (fun _ => 0)), (zaR aHs_5 cHs_11 8 (fun _ => none)), (zaI aWk_6 cWk_12 6 (fun _ => 0)), (zaI aBk_7 cBk_13 12 (fun _ => 0)), (zaI aFc_8 cFc_14 6 (fun _ => 0)), (zo7iirrrriniii aHl_9 3 0 bW_15 bA_16 bE_17 bC_18 0 0 0 0), (zaI bW_15 cbW_19 10 (fun _ => 0)), (zaI bA_16 cbA_20 10 (fun _ => 0)), (zaI bE_17 cbE_21 10 (fun _ => 0)), (zaI bC_18 cbC_22 100 (fun _ => 0)), (zo10ririliiriririr q_23 aTp_26 0 aHl_31 0 0 0 0 aHs_27 0 aWk_28 0 aBk_29 0 aFc_30), (zaI aTp_26 cTp_32 100 (fun _ => 0)), (zaR aHs_27 cHs_33 8 (fun _ => none)), (zaI aWk_28 cWk_34 6 (fun _ => 0)), (zaI aBk_29 cBk_35 12 (fun _ => 0)), (zaI aFc_30 cFc_36 6 (fun _ => 0)), (zo7iirrrriniii aHl_31 3 0 bW_37 bA_38 bE_39 bC_40 0 0 0 0), (zaI bW_37 cbW_41 10 (fun _ => 0)), (zaI bA_38 cbA_42 10 (fun _ => 0)), (zaI bE_39 cbE_43 10 (fun _ => 0)), (zaI bC_40 cbC_44 100 (fun _ => 0)), (zo7iirrrriniii q_45 3 0 bW_48 bA_49 bE_50 bC_51 0 0 0 0), (zaI bW_48 cbW_52 10 (fun _ => 0)), (zaI bA_49 cbA_53 10 (fun _ => 0)), (zaI bE_50 cbE_54 10 (fun _ => 0)), (zaI bC_51 cbC_55 100 (fun _ => 0)), (zo4rrir q_56 gR_59 gO_60 0 gS_61), (zaI gR_59 cR_62 8 (fun _ => 0)), (zaI gO_60 cO_63 8 (fun _ => 0)), (zo5iiii gS_61 0 0 0 0), (zo2lirrr q_64 0 0 dr_67 tO_68 hO_69), (zaI dr_67 cD_72 36 (fun _ => 0)), (zaR tO_68 cTO_73 3 (fun i => if i < 3 then some (rt_70 i) else none)), (zaL (rt_70 0) cT_75 36 (fun _ => 0)), (zaL (rt_70 1) cT_75 36 (fun _ => 0)), (zaL (rt_70 2) cT_75 36 (fun _ => 0)), (zaR hO_69 cHO_74 8 (fun i => if i < 8 then some (rh_71 i) else none)), (zaI (rh_71 0) cH_76 36 (fun _ => 0)), (zaI (rh_71 1) cH_76 36 (fun _ => 0)), (zaI (rh_71 2) cH_76 36 (fun _ => 0)), (zaI (rh_71 3) cH_76 36 (fun _ => 0)), (zaI (rh_71 4) cH_76 36 (fun _ => 0)), (zaI (rh_71 5) cH_76 36 (fun _ => 0)), (zaI (rh_71 6) cH_76 36 (fun _ => 0)), (zaI (rh_71 7) cH_76 36 (fun _ => 0))]) (w1 := [(zo1iri q_77 0 bS 0)]) hP hD [47] [0, 1, 2, 3, 4, 5, 6, 7, 8, 9, 10, 11, 12, 13, 14, 15, 16, 17, 18, 19, 20, 21, 22, 23, 24, 25, 26, 27, 28, 29, 30, 31, 32, 33, 34, 35, 36, 37, 38, 39, 40, 41, 42, 43, 44, 45, 46] rfl rfl (by decide) (by decide) hk1 hFc hP1 hD1
  have hK := (hK.sub (tys' := [(cTp_10, .int), (cHs_11, .object "MistHeaps$Heap"), (cWk_12, .int), (cBk_13, .int), (cFc_14, .int), (cbW_19, .int), (cbA_20, .int), (cbE_21, .int), (cbC_22, .int), (cTp_32, .int), (cHs_33, .object "MistHeaps$Heap"), (cWk_34, .int), (cBk_35, .int), (cFc_36, .int), (cbW_41, .int), (cbA_42, .int), (cbE_43, .int), (cbC_44, .int), (cbW_52, .int), (cbA_53, .int), (cbE_54, .int), (cbC_55, .int), (cR_62, .int), (cO_63, .int), (cD_72, .int), (cTO_73, .array .long), (cT_75, .long), (cT_75, .long), (cT_75, .long), (cHO_74, .array .int), (cH_76, .int), (cH_76, .int), (cH_76, .int), (cH_76, .int), (cH_76, .int), (cH_76, .int), (cH_76, .int), (cH_76, .int)]) [0, 1, 2, 3, 4, 5, 6, 7, 8, 9, 10, 11, 12, 13, 14, 15, 16, 17, 18, 19, 20, 21, 22, 23, 24, 25, 26, 27, 28, 29, 30, 31, 32, 33, 34, 35, 36, 37] rfl).app hK1
  generalize H1 = H at hP hS ⊢
  have hP : va_P (dC, dI) vwCl [(zo13rrirrrn h0 q_1 q_23 0 q_45 q_56 q_64), (zo10ririliiriririr q_1 aTp_4 0 aHl_9 0 0 0 0 aHs_5 0 aWk_6 0 aBk_7 0 aFc_8), (zaI aTp_4 cTp_10 100 (fun _ => 0)), (zaR aHs_5 cHs_11 8 (fun _ => none)), (zaI aWk_6 cWk_12 6 (fun _ => 0)), (zaI aBk_7 cBk_13 12 (fun _ => 0)), (zaI aFc_8 cFc_14 6 (fun _ => 0)), (zo7iirrrriniii aHl_9 3 0 bW_15 bA_16 bE_17 bC_18 0 0 0 0), (zaI bW_15 cbW_19 10 (fun _ => 0)), (zaI bA_16 cbA_20 10 (fun _ => 0)), (zaI bE_17 cbE_21 10 (fun _ => 0)), (zaI bC_18 cbC_22 100 (fun _ => 0)), (zo10ririliiriririr q_23 aTp_26 0 aHl_31 0 0 0 0 aHs_27 0 aWk_28 0 aBk_29 0 aFc_30), (zaI aTp_26 cTp_32 100 (fun _ => 0)), (zaR aHs_27 cHs_33 8 (fun _ => none)), (zaI aWk_28 cWk_34 6 (fun _ => 0)), (zaI aBk_29 cBk_35 12 (fun _ => 0)), (zaI aFc_30 cFc_36 6 (fun _ => 0)), (zo7iirrrriniii aHl_31 3 0 bW_37 bA_38 bE_39 bC_40 0 0 0 0), (zaI bW_37 cbW_41 10 (fun _ => 0)), (zaI bA_38 cbA_42 10 (fun _ => 0)), (zaI bE_39 cbE_43 10 (fun _ => 0)), (zaI bC_40 cbC_44 100 (fun _ => 0)), (zo7iirrrriniii q_45 3 0 bW_48 bA_49 bE_50 bC_51 0 0 0 0), (zaI bW_48 cbW_52 10 (fun _ => 0)), (zaI bA_49 cbA_53 10 (fun _ => 0)), (zaI bE_50 cbE_54 10 (fun _ => 0)), (zaI bC_51 cbC_55 100 (fun _ => 0)), (zo4rrir q_56 gR_59 gO_60 0 gS_61), (zaI gR_59 cR_62 8 (fun _ => 0)), (zaI gO_60 cO_63 8 (fun _ => 0)), (zo5iiii gS_61 0 0 0 0), (zo2lirrr q_64 0 0 dr_67 tO_68 hO_69), (zaI dr_67 cD_72 36 (fun _ => 0)), (zaR tO_68 cTO_73 3 (fun i => if i < 3 then some (rt_70 i) else none)), (zaL (rt_70 0) cT_75 36 (fun _ => 0)), (zaL (rt_70 1) cT_75 36 (fun _ => 0)), (zaL (rt_70 2) cT_75 36 (fun _ => 0)), (zaR hO_69 cHO_74 8 (fun i => if i < 8 then some (rh_71 i) else none)), (zaI (rh_71 0) cH_76 36 (fun _ => 0)), (zaI (rh_71 1) cH_76 36 (fun _ => 0)), (zaI (rh_71 2) cH_76 36 (fun _ => 0)), (zaI (rh_71 3) cH_76 36 (fun _ => 0)), (zaI (rh_71 4) cH_76 36 (fun _ => 0)), (zaI (rh_71 5) cH_76 36 (fun _ => 0)), (zaI (rh_71 6) cH_76 36 (fun _ => 0)), (zaI (rh_71 7) cH_76 36 (fun _ => 0)), (zo1iri q_77 0 bS 0)] H := hP
  have hD : va_D A [(zo13rrirrrn h0 q_1 q_23 0 q_45 q_56 q_64), (zo10ririliiriririr q_1 aTp_4 0 aHl_9 0 0 0 0 aHs_5 0 aWk_6 0 aBk_7 0 aFc_8), (zaI aTp_4 cTp_10 100 (fun _ => 0)), (zaR aHs_5 cHs_11 8 (fun _ => none)), (zaI aWk_6 cWk_12 6 (fun _ => 0)), (zaI aBk_7 cBk_13 12 (fun _ => 0)), (zaI aFc_8 cFc_14 6 (fun _ => 0)), (zo7iirrrriniii aHl_9 3 0 bW_15 bA_16 bE_17 bC_18 0 0 0 0), (zaI bW_15 cbW_19 10 (fun _ => 0)), (zaI bA_16 cbA_20 10 (fun _ => 0)), (zaI bE_17 cbE_21 10 (fun _ => 0)), (zaI bC_18 cbC_22 100 (fun _ => 0)), (zo10ririliiriririr q_23 aTp_26 0 aHl_31 0 0 0 0 aHs_27 0 aWk_28 0 aBk_29 0 aFc_30), (zaI aTp_26 cTp_32 100 (fun _ => 0)), (zaR aHs_27 cHs_33 8 (fun _ => none)), (zaI aWk_28 cWk_34 6 (fun _ => 0)), (zaI aBk_29 cBk_35 12 (fun _ => 0)), (zaI aFc_30 cFc_36 6 (fun _ => 0)), (zo7iirrrriniii aHl_31 3 0 bW_37 bA_38 bE_39 bC_40 0 0 0 0), (zaI bW_37 cbW_41 10 (fun _ => 0)), (zaI bA_38 cbA_42 10 (fun _ => 0)), (zaI bE_39 cbE_43 10 (fun _ => 0)), (zaI bC_40 cbC_44 100 (fun _ => 0)), (zo7iirrrriniii q_45 3 0 bW_48 bA_49 bE_50 bC_51 0 0 0 0), (zaI bW_48 cbW_52 10 (fun _ => 0)), (zaI bA_49 cbA_53 10 (fun _ => 0)), (zaI bE_50 cbE_54 10 (fun _ => 0)), (zaI bC_51 cbC_55 100 (fun _ => 0)), (zo4rrir q_56 gR_59 gO_60 0 gS_61), (zaI gR_59 cR_62 8 (fun _ => 0)), (zaI gO_60 cO_63 8 (fun _ => 0)), (zo5iiii gS_61 0 0 0 0), (zo2lirrr q_64 0 0 dr_67 tO_68 hO_69), (zaI dr_67 cD_72 36 (fun _ => 0)), (zaR tO_68 cTO_73 3 (fun i => if i < 3 then some (rt_70 i) else none)), (zaL (rt_70 0) cT_75 36 (fun _ => 0)), (zaL (rt_70 1) cT_75 36 (fun _ => 0)), (zaL (rt_70 2) cT_75 36 (fun _ => 0)), (zaR hO_69 cHO_74 8 (fun i => if i < 8 then some (rh_71 i) else none)), (zaI (rh_71 0) cH_76 36 (fun _ => 0)), (zaI (rh_71 1) cH_76 36 (fun _ => 0)), (zaI (rh_71 2) cH_76 36 (fun _ => 0)), (zaI (rh_71 3) cH_76 36 (fun _ => 0)), (zaI (rh_71 4) cH_76 36 (fun _ => 0)), (zaI (rh_71 5) cH_76 36 (fun _ => 0)), (zaI (rh_71 6) cH_76 36 (fun _ => 0)), (zaI (rh_71 7) cH_76 36 (fun _ => 0)), (zo1iri q_77 0 bS 0)] := hD
  have hK : va_K (dC, dI) vwCl [(cTp_10, .int), (cHs_11, .object "MistHeaps$Heap"), (cWk_12, .int), (cBk_13, .int), (cFc_14, .int), (cbW_19, .int), (cbA_20, .int), (cbE_21, .int), (cbC_22, .int), (cTp_32, .int), (cHs_33, .object "MistHeaps$Heap"), (cWk_34, .int), (cBk_35, .int), (cFc_36, .int), (cbW_41, .int), (cbA_42, .int), (cbE_43, .int), (cbC_44, .int), (cbW_52, .int), (cbA_53, .int), (cbE_54, .int), (cbC_55, .int), (cR_62, .int), (cO_63, .int), (cD_72, .int), (cTO_73, .array .long), (cT_75, .long), (cT_75, .long), (cT_75, .long), (cHO_74, .array .int), (cH_76, .int), (cH_76, .int), (cH_76, .int), (cH_76, .int), (cH_76, .int), (cH_76, .int), (cH_76, .int), (cH_76, .int)] s := hK
  refine va_putF (D := (dC, dI)) (ci := 13) (v := .ref q_77) (ty := .object "java/util/ArrayList") (C := RX11) (T := TX11) (N := 7) hx hb hts kc_classInit_9 tyX11 tyX11_ok nmX11 hown hK hP hD hS 0 rfl rfl 6 (by decide) (hts (.fieldLink RX11 49 "MistHeaps" "bodies" "Ljava/util/ArrayList;") kc_classInit_40) (fun _ h9 => h9) rfl hin rfl (by decide +kernel) rfl rfl (Nat.le_of_ble_eq_true rfl) dX11_init_72 (fun H locs hP hD hS => ?_)
  have hP : va_P (dC, dI) vwCl [(zo13rrirrrr h0 q_1 q_23 0 q_45 q_56 q_64 q_77), (zo10ririliiriririr q_1 aTp_4 0 aHl_9 0 0 0 0 aHs_5 0 aWk_6 0 aBk_7 0 aFc_8), (zaI aTp_4 cTp_10 100 (fun _ => 0)), (zaR aHs_5 cHs_11 8 (fun _ => none)), (zaI aWk_6 cWk_12 6 (fun _ => 0)), (zaI aBk_7 cBk_13 12 (fun _ => 0)), (zaI aFc_8 cFc_14 6 (fun _ => 0)), (zo7iirrrriniii aHl_9 3 0 bW_15 bA_16 bE_17 bC_18 0 0 0 0), (zaI bW_15 cbW_19 10 (fun _ => 0)), (zaI bA_16 cbA_20 10 (fun _ => 0)), (zaI bE_17 cbE_21 10 (fun _ => 0)), (zaI bC_18 cbC_22 100 (fun _ => 0)), (zo10ririliiriririr q_23 aTp_26 0 aHl_31 0 0 0 0 aHs_27 0 aWk_28 0 aBk_29 0 aFc_30), (zaI aTp_26 cTp_32 100 (fun _ => 0)), (zaR aHs_27 cHs_33 8 (fun _ => none)), (zaI aWk_28 cWk_34 6 (fun _ => 0)), (zaI aBk_29 cBk_35 12 (fun _ => 0)), (zaI aFc_30 cFc_36 6 (fun _ => 0)), (zo7iirrrriniii aHl_31 3 0 bW_37 bA_38 bE_39 bC_40 0 0 0 0), (zaI bW_37 cbW_41 10 (fun _ => 0)), (zaI bA_38 cbA_42 10 (fun _ => 0)), (zaI bE_39 cbE_43 10 (fun _ => 0)), (zaI bC_40 cbC_44 100 (fun _ => 0)), (zo7iirrrriniii q_45 3 0 bW_48 bA_49 bE_50 bC_51 0 0 0 0), (zaI bW_48 cbW_52 10 (fun _ => 0)), (zaI bA_49 cbA_53 10 (fun _ => 0)), (zaI bE_50 cbE_54 10 (fun _ => 0)), (zaI bC_51 cbC_55 100 (fun _ => 0)), (zo4rrir q_56 gR_59 gO_60 0 gS_61), (zaI gR_59 cR_62 8 (fun _ => 0)), (zaI gO_60 cO_63 8 (fun _ => 0)), (zo5iiii gS_61 0 0 0 0), (zo2lirrr q_64 0 0 dr_67 tO_68 hO_69), (zaI dr_67 cD_72 36 (fun _ => 0)), (zaR tO_68 cTO_73 3 (fun i => if i < 3 then some (rt_70 i) else none)), (zaL (rt_70 0) cT_75 36 (fun _ => 0)), (zaL (rt_70 1) cT_75 36 (fun _ => 0)), (zaL (rt_70 2) cT_75 36 (fun _ => 0)), (zaR hO_69 cHO_74 8 (fun i => if i < 8 then some (rh_71 i) else none)), (zaI (rh_71 0) cH_76 36 (fun _ => 0)), (zaI (rh_71 1) cH_76 36 (fun _ => 0)), (zaI (rh_71 2) cH_76 36 (fun _ => 0)), (zaI (rh_71 3) cH_76 36 (fun _ => 0)), (zaI (rh_71 4) cH_76 36 (fun _ => 0)), (zaI (rh_71 5) cH_76 36 (fun _ => 0)), (zaI (rh_71 6) cH_76 36 (fun _ => 0)), (zaI (rh_71 7) cH_76 36 (fun _ => 0)), (zo1iri q_77 0 bS 0)] H := hP
  have hD : va_D A [(zo13rrirrrr h0 q_1 q_23 0 q_45 q_56 q_64 q_77), (zo10ririliiriririr q_1 aTp_4 0 aHl_9 0 0 0 0 aHs_5 0 aWk_6 0 aBk_7 0 aFc_8), (zaI aTp_4 cTp_10 100 (fun _ => 0)), (zaR aHs_5 cHs_11 8 (fun _ => none)), (zaI aWk_6 cWk_12 6 (fun _ => 0)), (zaI aBk_7 cBk_13 12 (fun _ => 0)), (zaI aFc_8 cFc_14 6 (fun _ => 0)), (zo7iirrrriniii aHl_9 3 0 bW_15 bA_16 bE_17 bC_18 0 0 0 0), (zaI bW_15 cbW_19 10 (fun _ => 0)), (zaI bA_16 cbA_20 10 (fun _ => 0)), (zaI bE_17 cbE_21 10 (fun _ => 0)), (zaI bC_18 cbC_22 100 (fun _ => 0)), (zo10ririliiriririr q_23 aTp_26 0 aHl_31 0 0 0 0 aHs_27 0 aWk_28 0 aBk_29 0 aFc_30), (zaI aTp_26 cTp_32 100 (fun _ => 0)), (zaR aHs_27 cHs_33 8 (fun _ => none)), (zaI aWk_28 cWk_34 6 (fun _ => 0)), (zaI aBk_29 cBk_35 12 (fun _ => 0)), (zaI aFc_30 cFc_36 6 (fun _ => 0)), (zo7iirrrriniii aHl_31 3 0 bW_37 bA_38 bE_39 bC_40 0 0 0 0), (zaI bW_37 cbW_41 10 (fun _ => 0)), (zaI bA_38 cbA_42 10 (fun _ => 0)), (zaI bE_39 cbE_43 10 (fun _ => 0)), (zaI bC_40 cbC_44 100 (fun _ => 0)), (zo7iirrrriniii q_45 3 0 bW_48 bA_49 bE_50 bC_51 0 0 0 0), (zaI bW_48 cbW_52 10 (fun _ => 0)), (zaI bA_49 cbA_53 10 (fun _ => 0)), (zaI bE_50 cbE_54 10 (fun _ => 0)), (zaI bC_51 cbC_55 100 (fun _ => 0)), (zo4rrir q_56 gR_59 gO_60 0 gS_61), (zaI gR_59 cR_62 8 (fun _ => 0)), (zaI gO_60 cO_63 8 (fun _ => 0)), (zo5iiii gS_61 0 0 0 0), (zo2lirrr q_64 0 0 dr_67 tO_68 hO_69), (zaI dr_67 cD_72 36 (fun _ => 0)), (zaR tO_68 cTO_73 3 (fun i => if i < 3 then some (rt_70 i) else none)), (zaL (rt_70 0) cT_75 36 (fun _ => 0)), (zaL (rt_70 1) cT_75 36 (fun _ => 0)), (zaL (rt_70 2) cT_75 36 (fun _ => 0)), (zaR hO_69 cHO_74 8 (fun i => if i < 8 then some (rh_71 i) else none)), (zaI (rh_71 0) cH_76 36 (fun _ => 0)), (zaI (rh_71 1) cH_76 36 (fun _ => 0)), (zaI (rh_71 2) cH_76 36 (fun _ => 0)), (zaI (rh_71 3) cH_76 36 (fun _ => 0)), (zaI (rh_71 4) cH_76 36 (fun _ => 0)), (zaI (rh_71 5) cH_76 36 (fun _ => 0)), (zaI (rh_71 6) cH_76 36 (fun _ => 0)), (zaI (rh_71 7) cH_76 36 (fun _ => 0)), (zo1iri q_77 0 bS 0)] := hD
  rw [hQ]
  have hP9 := hP.sub (ws' := [(zo13rrirrrr h0 q_1 q_23 0 q_45 q_56 q_64 q_77), (zo10ririliiriririr q_1 aTp_4 0 aHl_9 0 0 0 0 aHs_5 0 aWk_6 0 aBk_7 0 aFc_8), (zaI aTp_4 cTp_10 100 (fun _ => 0)), (zaR aHs_5 cHs_11 8 (fun _ => none)), (zaI aWk_6 cWk_12 6 (fun _ => 0)), (zaI aBk_7 cBk_13 12 (fun _ => 0)), (zaI aFc_8 cFc_14 6 (fun _ => 0)), (zo7iirrrriniii aHl_9 3 0 bW_15 bA_16 bE_17 bC_18 0 0 0 0), (zaI bW_15 cbW_19 10 (fun _ => 0)), (zaI bA_16 cbA_20 10 (fun _ => 0)), (zaI bE_17 cbE_21 10 (fun _ => 0)), (zaI bC_18 cbC_22 100 (fun _ => 0)), (zo10ririliiriririr q_23 aTp_26 0 aHl_31 0 0 0 0 aHs_27 0 aWk_28 0 aBk_29 0 aFc_30), (zaI aTp_26 cTp_32 100 (fun _ => 0)), (zaR aHs_27 cHs_33 8 (fun _ => none)), (zaI aWk_28 cWk_34 6 (fun _ => 0)), (zaI aBk_29 cBk_35 12 (fun _ => 0)), (zaI aFc_30 cFc_36 6 (fun _ => 0)), (zo7iirrrriniii aHl_31 3 0 bW_37 bA_38 bE_39 bC_40 0 0 0 0), (zaI bW_37 cbW_41 10 (fun _ => 0)), (zaI bA_38 cbA_42 10 (fun _ => 0)), (zaI bE_39 cbE_43 10 (fun _ => 0)), (zaI bC_40 cbC_44 100 (fun _ => 0)), (zo7iirrrriniii q_45 3 0 bW_48 bA_49 bE_50 bC_51 0 0 0 0), (zaI bW_48 cbW_52 10 (fun _ => 0)), (zaI bA_49 cbA_53 10 (fun _ => 0)), (zaI bE_50 cbE_54 10 (fun _ => 0)), (zaI bC_51 cbC_55 100 (fun _ => 0)), (zo4rrir q_56 gR_59 gO_60 0 gS_61), (zaI gR_59 cR_62 8 (fun _ => 0)), (zaI gO_60 cO_63 8 (fun _ => 0)), (zo5iiii gS_61 0 0 0 0), (zo2lirrr q_64 0 0 dr_67 tO_68 hO_69), (zaI dr_67 cD_72 36 (fun _ => 0)), (zaR tO_68 cTO_73 3 (fun i => if i < 3 then some (rt_70 i) else none)), (zaL (rt_70 0) cT_75 36 (fun _ => 0)), (zaL (rt_70 1) cT_75 36 (fun _ => 0)), (zaL (rt_70 2) cT_75 36 (fun _ => 0)), (zaR hO_69 cHO_74 8 (fun i => if i < 8 then some (rh_71 i) else none)), (zaI (rh_71 0) cH_76 36 (fun _ => 0)), (zaI (rh_71 1) cH_76 36 (fun _ => 0)), (zaI (rh_71 2) cH_76 36 (fun _ => 0)), (zaI (rh_71 3) cH_76 36 (fun _ => 0)), (zaI (rh_71 4) cH_76 36 (fun _ => 0)), (zaI (rh_71 5) cH_76 36 (fun _ => 0)), (zaI (rh_71 6) cH_76 36 (fun _ => 0)), (zaI (rh_71 7) cH_76 36 (fun _ => 0)), (zo1iri q_77 0 bS 0)]) [0, 1, 2, 3, 4, 5, 6, 7, 8, 9, 10, 11, 12, 13, 14, 15, 16, 17, 18, 19, 20, 21, 22, 23, 24, 25, 26, 27, 28, 29, 30, 31, 32, 33, 34, 35, 36, 37, 38, 39, 40, 41, 42, 43, 44, 45, 46, 47] rfl
  have hD9 := hD.sub (ws' := [(zo13rrirrrr h0 q_1 q_23 0 q_45 q_56 q_64 q_77), (zo10ririliiriririr q_1 aTp_4 0 aHl_9 0 0 0 0 aHs_5 0 aWk_6 0 aBk_7 0 aFc_8), (zaI aTp_4 cTp_10 100 (fun _ => 0)), (zaR aHs_5 cHs_11 8 (fun _ => none)), (zaI aWk_6 cWk_12 6 (fun _ => 0)), (zaI aBk_7 cBk_13 12 (fun _ => 0)), (zaI aFc_8 cFc_14 6 (fun _ => 0)), (zo7iirrrriniii aHl_9 3 0 bW_15 bA_16 bE_17 bC_18 0 0 0 0), (zaI bW_15 cbW_19 10 (fun _ => 0)), (zaI bA_16 cbA_20 10 (fun _ => 0)), (zaI bE_17 cbE_21 10 (fun _ => 0)), (zaI bC_18 cbC_22 100 (fun _ => 0)), (zo10ririliiriririr q_23 aTp_26 0 aHl_31 0 0 0 0 aHs_27 0 aWk_28 0 aBk_29 0 aFc_30), (zaI aTp_26 cTp_32 100 (fun _ => 0)), (zaR aHs_27 cHs_33 8 (fun _ => none)), (zaI aWk_28 cWk_34 6 (fun _ => 0)), (zaI aBk_29 cBk_35 12 (fun _ => 0)), (zaI aFc_30 cFc_36 6 (fun _ => 0)), (zo7iirrrriniii aHl_31 3 0 bW_37 bA_38 bE_39 bC_40 0 0 0 0), (zaI bW_37 cbW_41 10 (fun _ => 0)), (zaI bA_38 cbA_42 10 (fun _ => 0)), (zaI bE_39 cbE_43 10 (fun _ => 0)), (zaI bC_40 cbC_44 100 (fun _ => 0)), (zo7iirrrriniii q_45 3 0 bW_48 bA_49 bE_50 bC_51 0 0 0 0), (zaI bW_48 cbW_52 10 (fun _ => 0)), (zaI bA_49 cbA_53 10 (fun _ => 0)), (zaI bE_50 cbE_54 10 (fun _ => 0)), (zaI bC_51 cbC_55 100 (fun _ => 0)), (zo4rrir q_56 gR_59 gO_60 0 gS_61), (zaI gR_59 cR_62 8 (fun _ => 0)), (zaI gO_60 cO_63 8 (fun _ => 0)), (zo5iiii gS_61 0 0 0 0), (zo2lirrr q_64 0 0 dr_67 tO_68 hO_69), (zaI dr_67 cD_72 36 (fun _ => 0)), (zaR tO_68 cTO_73 3 (fun i => if i < 3 then some (rt_70 i) else none)), (zaL (rt_70 0) cT_75 36 (fun _ => 0)), (zaL (rt_70 1) cT_75 36 (fun _ => 0)), (zaL (rt_70 2) cT_75 36 (fun _ => 0)), (zaR hO_69 cHO_74 8 (fun i => if i < 8 then some (rh_71 i) else none)), (zaI (rh_71 0) cH_76 36 (fun _ => 0)), (zaI (rh_71 1) cH_76 36 (fun _ => 0)), (zaI (rh_71 2) cH_76 36 (fun _ => 0)), (zaI (rh_71 3) cH_76 36 (fun _ => 0)), (zaI (rh_71 4) cH_76 36 (fun _ => 0)), (zaI (rh_71 5) cH_76 36 (fun _ => 0)), (zaI (rh_71 6) cH_76 36 (fun _ => 0)), (zaI (rh_71 7) cH_76 36 (fun _ => 0)), (zo1iri q_77 0 bS 0)]) [0, 1, 2, 3, 4, 5, 6, 7, 8, 9, 10, 11, 12, 13, 14, 15, 16, 17, 18, 19, 20, 21, 22, 23, 24, 25, 26, 27, 28, 29, 30, 31, 32, 33, 34, 35, 36, 37, 38, 39, 40, 41, 42, 43, 44, 45, 46, 47] (by decide) rfl
  have hK9 := hK.sub (tys' := [(cTp_10, .int), (cHs_11, .object "MistHeaps$Heap"), (cWk_12, .int), (cBk_13, .int), (cFc_14, .int), (cbW_19, .int), (cbA_20, .int), (cbE_21, .int), (cbC_22, .int), (cTp_32, .int), (cHs_33, .object "MistHeaps$Heap"), (cWk_34, .int), (cBk_35, .int), (cFc_36, .int), (cbW_41, .int), (cbA_42, .int), (cbE_43, .int), (cbC_44, .int), (cbW_52, .int), (cbA_53, .int), (cbE_54, .int), (cbC_55, .int), (cR_62, .int), (cO_63, .int), (cD_72, .int), (cTO_73, .array .long), (cT_75, .long), (cT_75, .long), (cT_75, .long), (cHO_74, .array .int), (cH_76, .int), (cH_76, .int), (cH_76, .int), (cH_76, .int), (cH_76, .int), (cH_76, .int), (cH_76, .int), (cH_76, .int)]) [0, 1, 2, 3, 4, 5, 6, 7, 8, 9, 10, 11, 12, 13, 14, 15, 16, 17, 18, 19, 20, 21, 22, 23, 24, 25, 26, 27, 28, 29, 30, 31, 32, 33, 34, 35, 36, 37] rfl
  exact W.vret hx hb hr (fun tQ htQ hWQ => ⟨⟨(), rfl, trivial, q_1, aTp_4, aHs_5, aWk_6, aBk_7, aFc_8, aHl_9, cTp_10, cHs_11, cWk_12, cBk_13, cFc_14, bW_15, bA_16, bE_17, bC_18, cbW_19, cbA_20, cbE_21, cbC_22, q_23, aTp_26, aHs_27, aWk_28, aBk_29, aFc_30, aHl_31, cTp_32, cHs_33, cWk_34, cBk_35, cFc_36, bW_37, bA_38, bE_39, bC_40, cbW_41, cbA_42, cbE_43, cbC_44, q_45, bW_48, bA_49, bE_50, bC_51, cbW_52, cbA_53, cbE_54, cbC_55, q_56, gR_59, gO_60, gS_61, cR_62, cO_63, q_64, dr_67, tO_68, hO_69, rt_70, rh_71, cD_72, cTO_73, cHO_74, cT_75, cH_76, q_77, by rw [htQ]; exact hP9, va_K.moved hWQ.alike hK9, hD9⟩, hS.F htQ⟩) hS.2.2 dX11_init_75
end mg16b
section mg16b
theorem ggX11_heapOfKind_X3_init : GoodIn wsX11_heapOfKind wsX3_init := gga_of 226 rfl rfl rfl
theorem ggX11_heapOfKind_X4_init : GoodIn wsX11_heapOfKind wsX4_init := gga_of 561 rfl rfl rfl
theorem ggX11_heapOfKind_X6_init : GoodIn wsX11_heapOfKind wsX6_init := gga_of 572 rfl rfl rfl
theorem ggX11_heapOfKind_X1_init : GoodIn wsX11_heapOfKind wsX1_init := gga_of 583 rfl rfl rfl
theorem ggX11_heapOfKind_X10_init : GoodIn wsX11_heapOfKind wsX10_init := gga_of 594 rfl rfl rfl
theorem ggX11_heapOfKind_X9_init : GoodIn wsX11_heapOfKind wsX9_init := gga_of 605 rfl rfl rfl
theorem ggX11_heapOfKind_X7_init : GoodIn wsX11_heapOfKind wsX7_init := gga_of 616 rfl rfl rfl
noncomputable def dk17dmade_cX11_heapOfKind_0 : List (Nat × List Nat) := [(0, [26]), (40, [187, 1, 20]), (43, [89]), (44, [26]), (45, [27]), (46, [28]), (47, [29]), (48, [183, 1, 22]), (51, [176]), (52, [187, 1, 25]), (55, [89]), (56, [26]), (57, [27]), (58, [28]), (59, [29]), (60, [183, 1, 27]), (63, [176]), (64, [187, 1, 28]), (67, [89]), (68, [26]), (69, [27]), (70, [28]), (71, [29]), (72, [183, 1, 30]), (75, [176]), (76, [187, 1, 31]), (79, [89]), (80, [26]), (81, [27]), (82, [28]), (83, [29]), (112, [187, 0, 117]), (115, [89]), (116, [26]), (117, [27]), (118, [28]), (119, [29]), (120, [183, 1, 40]), (123, [176])]
set_option maxRecDepth 100000 in
theorem dk17dmade_cX11_heapOfKind_0_a : btA cX11_heapOfKind dk17dmade_cX11_heapOfKind_0 = true := by decide +kernel
theorem dX11_heapOfKind_0 : decode cX11_heapOfKind 0 = .ok (.iload_n 0, 1) := bd26 (btAt dk17dmade_cX11_heapOfKind_0_a 0 rfl)
theorem dX11_heapOfKind_40 : decode cX11_heapOfKind 40 = .ok (.new 276, 3) := bd187 (a := 1) (b := 20) (btAt dk17dmade_cX11_heapOfKind_0_a 1 rfl)
theorem dX11_heapOfKind_43 : decode cX11_heapOfKind 43 = .ok (.dup, 1) := bd89 (btAt dk17dmade_cX11_heapOfKind_0_a 2 rfl)
theorem dX11_heapOfKind_44 : decode cX11_heapOfKind 44 = .ok (.iload_n 0, 1) := bd26 (btAt dk17dmade_cX11_heapOfKind_0_a 3 rfl)
theorem dX11_heapOfKind_45 : decode cX11_heapOfKind 45 = .ok (.iload_n 1, 1) := bd27 (btAt dk17dmade_cX11_heapOfKind_0_a 4 rfl)
theorem dX11_heapOfKind_46 : decode cX11_heapOfKind 46 = .ok (.iload_n 2, 1) := bd28 (btAt dk17dmade_cX11_heapOfKind_0_a 5 rfl)
theorem dX11_heapOfKind_47 : decode cX11_heapOfKind 47 = .ok (.iload_n 3, 1) := bd29 (btAt dk17dmade_cX11_heapOfKind_0_a 6 rfl)
theorem dX11_heapOfKind_48 : decode cX11_heapOfKind 48 = .ok (.invokespecial 278, 3) := bd183 (a := 1) (b := 22) (btAt dk17dmade_cX11_heapOfKind_0_a 7 rfl)
theorem dX11_heapOfKind_51 : decode cX11_heapOfKind 51 = .ok (.areturn, 1) := bd176 (btAt dk17dmade_cX11_heapOfKind_0_a 8 rfl)
theorem dX11_heapOfKind_52 : decode cX11_heapOfKind 52 = .ok (.new 281, 3) := bd187 (a := 1) (b := 25) (btAt dk17dmade_cX11_heapOfKind_0_a 9 rfl)
theorem dX11_heapOfKind_55 : decode cX11_heapOfKind 55 = .ok (.dup, 1) := bd89 (btAt dk17dmade_cX11_heapOfKind_0_a 10 rfl)
theorem dX11_heapOfKind_56 : decode cX11_heapOfKind 56 = .ok (.iload_n 0, 1) := bd26 (btAt dk17dmade_cX11_heapOfKind_0_a 11 rfl)
theorem dX11_heapOfKind_57 : decode cX11_heapOfKind 57 = .ok (.iload_n 1, 1) := bd27 (btAt dk17dmade_cX11_heapOfKind_0_a 12 rfl)
theorem dX11_heapOfKind_58 : decode cX11_heapOfKind 58 = .ok (.iload_n 2, 1) := bd28 (btAt dk17dmade_cX11_heapOfKind_0_a 13 rfl)
theorem dX11_heapOfKind_59 : decode cX11_heapOfKind 59 = .ok (.iload_n 3, 1) := bd29 (btAt dk17dmade_cX11_heapOfKind_0_a 14 rfl)
theorem dX11_heapOfKind_60 : decode cX11_heapOfKind 60 = .ok (.invokespecial 283, 3) := bd183 (a := 1) (b := 27) (btAt dk17dmade_cX11_heapOfKind_0_a 15 rfl)
theorem dX11_heapOfKind_63 : decode cX11_heapOfKind 63 = .ok (.areturn, 1) := bd176 (btAt dk17dmade_cX11_heapOfKind_0_a 16 rfl)
theorem dX11_heapOfKind_64 : decode cX11_heapOfKind 64 = .ok (.new 284, 3) := bd187 (a := 1) (b := 28) (btAt dk17dmade_cX11_heapOfKind_0_a 17 rfl)
theorem dX11_heapOfKind_67 : decode cX11_heapOfKind 67 = .ok (.dup, 1) := bd89 (btAt dk17dmade_cX11_heapOfKind_0_a 18 rfl)
theorem dX11_heapOfKind_68 : decode cX11_heapOfKind 68 = .ok (.iload_n 0, 1) := bd26 (btAt dk17dmade_cX11_heapOfKind_0_a 19 rfl)
theorem dX11_heapOfKind_69 : decode cX11_heapOfKind 69 = .ok (.iload_n 1, 1) := bd27 (btAt dk17dmade_cX11_heapOfKind_0_a 20 rfl)
theorem dX11_heapOfKind_70 : decode cX11_heapOfKind 70 = .ok (.iload_n 2, 1) := bd28 (btAt dk17dmade_cX11_heapOfKind_0_a 21 rfl)
theorem dX11_heapOfKind_71 : decode cX11_heapOfKind 71 = .ok (.iload_n 3, 1) := bd29 (btAt dk17dmade_cX11_heapOfKind_0_a 22 rfl)
theorem dX11_heapOfKind_72 : decode cX11_heapOfKind 72 = .ok (.invokespecial 286, 3) := bd183 (a := 1) (b := 30) (btAt dk17dmade_cX11_heapOfKind_0_a 23 rfl)
theorem dX11_heapOfKind_75 : decode cX11_heapOfKind 75 = .ok (.areturn, 1) := bd176 (btAt dk17dmade_cX11_heapOfKind_0_a 24 rfl)
theorem dX11_heapOfKind_76 : decode cX11_heapOfKind 76 = .ok (.new 287, 3) := bd187 (a := 1) (b := 31) (btAt dk17dmade_cX11_heapOfKind_0_a 25 rfl)
theorem dX11_heapOfKind_79 : decode cX11_heapOfKind 79 = .ok (.dup, 1) := bd89 (btAt dk17dmade_cX11_heapOfKind_0_a 26 rfl)
theorem dX11_heapOfKind_80 : decode cX11_heapOfKind 80 = .ok (.iload_n 0, 1) := bd26 (btAt dk17dmade_cX11_heapOfKind_0_a 27 rfl)
theorem dX11_heapOfKind_81 : decode cX11_heapOfKind 81 = .ok (.iload_n 1, 1) := bd27 (btAt dk17dmade_cX11_heapOfKind_0_a 28 rfl)
theorem dX11_heapOfKind_82 : decode cX11_heapOfKind 82 = .ok (.iload_n 2, 1) := bd28 (btAt dk17dmade_cX11_heapOfKind_0_a 29 rfl)
theorem dX11_heapOfKind_83 : decode cX11_heapOfKind 83 = .ok (.iload_n 3, 1) := bd29 (btAt dk17dmade_cX11_heapOfKind_0_a 30 rfl)
theorem dX11_heapOfKind_112 : decode cX11_heapOfKind 112 = .ok (.new 117, 3) := bd187 (a := 0) (b := 117) (btAt dk17dmade_cX11_heapOfKind_0_a 31 rfl)
theorem dX11_heapOfKind_115 : decode cX11_heapOfKind 115 = .ok (.dup, 1) := bd89 (btAt dk17dmade_cX11_heapOfKind_0_a 32 rfl)
theorem dX11_heapOfKind_116 : decode cX11_heapOfKind 116 = .ok (.iload_n 0, 1) := bd26 (btAt dk17dmade_cX11_heapOfKind_0_a 33 rfl)
theorem dX11_heapOfKind_117 : decode cX11_heapOfKind 117 = .ok (.iload_n 1, 1) := bd27 (btAt dk17dmade_cX11_heapOfKind_0_a 34 rfl)
theorem dX11_heapOfKind_118 : decode cX11_heapOfKind 118 = .ok (.iload_n 2, 1) := bd28 (btAt dk17dmade_cX11_heapOfKind_0_a 35 rfl)
theorem dX11_heapOfKind_119 : decode cX11_heapOfKind 119 = .ok (.iload_n 3, 1) := bd29 (btAt dk17dmade_cX11_heapOfKind_0_a 36 rfl)
theorem dX11_heapOfKind_120 : decode cX11_heapOfKind 120 = .ok (.invokespecial 296, 3) := bd183 (a := 1) (b := 40) (btAt dk17dmade_cX11_heapOfKind_0_a 37 rfl)
theorem dX11_heapOfKind_123 : decode cX11_heapOfKind 123 = .ok (.areturn, 1) := bd176 (btAt dk17dmade_cX11_heapOfKind_0_a 38 rfl)
set_option maxRecDepth 100000 in
theorem dX11_heapOfKind_1 : decode cX11_heapOfKind 1 = .ok (.tableswitch 111 1 6 #[39, 51, 63, 75, 87, 99], 39) := by decide +kernel
noncomputable def dk17dmade_cX11_heapOfKind_40 : List (Nat × List Nat) := [(84, [183, 1, 33]), (87, [176]), (88, [187, 1, 34]), (91, [89]), (92, [26]), (93, [27]), (94, [28]), (95, [29]), (96, [183, 1, 36]), (99, [176]), (100, [187, 1, 37]), (103, [89]), (104, [26]), (105, [27]), (106, [28]), (107, [29]), (108, [183, 1, 39]), (111, [176])]
set_option maxRecDepth 100000 in
theorem dk17dmade_cX11_heapOfKind_40_a : btA cX11_heapOfKind dk17dmade_cX11_heapOfKind_40 = true := by decide +kernel
theorem dX11_heapOfKind_84 : decode cX11_heapOfKind 84 = .ok (.invokespecial 289, 3) := bd183 (a := 1) (b := 33) (btAt dk17dmade_cX11_heapOfKind_40_a 0 rfl)
theorem dX11_heapOfKind_87 : decode cX11_heapOfKind 87 = .ok (.areturn, 1) := bd176 (btAt dk17dmade_cX11_heapOfKind_40_a 1 rfl)
theorem dX11_heapOfKind_88 : decode cX11_heapOfKind 88 = .ok (.new 290, 3) := bd187 (a := 1) (b := 34) (btAt dk17dmade_cX11_heapOfKind_40_a 2 rfl)
theorem dX11_heapOfKind_91 : decode cX11_heapOfKind 91 = .ok (.dup, 1) := bd89 (btAt dk17dmade_cX11_heapOfKind_40_a 3 rfl)
theorem dX11_heapOfKind_92 : decode cX11_heapOfKind 92 = .ok (.iload_n 0, 1) := bd26 (btAt dk17dmade_cX11_heapOfKind_40_a 4 rfl)
theorem dX11_heapOfKind_93 : decode cX11_heapOfKind 93 = .ok (.iload_n 1, 1) := bd27 (btAt dk17dmade_cX11_heapOfKind_40_a 5 rfl)
theorem dX11_heapOfKind_94 : decode cX11_heapOfKind 94 = .ok (.iload_n 2, 1) := bd28 (btAt dk17dmade_cX11_heapOfKind_40_a 6 rfl)
theorem dX11_heapOfKind_95 : decode cX11_heapOfKind 95 = .ok (.iload_n 3, 1) := bd29 (btAt dk17dmade_cX11_heapOfKind_40_a 7 rfl)
theorem dX11_heapOfKind_96 : decode cX11_heapOfKind 96 = .ok (.invokespecial 292, 3) := bd183 (a := 1) (b := 36) (btAt dk17dmade_cX11_heapOfKind_40_a 8 rfl)
theorem dX11_heapOfKind_99 : decode cX11_heapOfKind 99 = .ok (.areturn, 1) := bd176 (btAt dk17dmade_cX11_heapOfKind_40_a 9 rfl)
theorem dX11_heapOfKind_100 : decode cX11_heapOfKind 100 = .ok (.new 293, 3) := bd187 (a := 1) (b := 37) (btAt dk17dmade_cX11_heapOfKind_40_a 10 rfl)
theorem dX11_heapOfKind_103 : decode cX11_heapOfKind 103 = .ok (.dup, 1) := bd89 (btAt dk17dmade_cX11_heapOfKind_40_a 11 rfl)
theorem dX11_heapOfKind_104 : decode cX11_heapOfKind 104 = .ok (.iload_n 0, 1) := bd26 (btAt dk17dmade_cX11_heapOfKind_40_a 12 rfl)
theorem dX11_heapOfKind_105 : decode cX11_heapOfKind 105 = .ok (.iload_n 1, 1) := bd27 (btAt dk17dmade_cX11_heapOfKind_40_a 13 rfl)
theorem dX11_heapOfKind_106 : decode cX11_heapOfKind 106 = .ok (.iload_n 2, 1) := bd28 (btAt dk17dmade_cX11_heapOfKind_40_a 14 rfl)
theorem dX11_heapOfKind_107 : decode cX11_heapOfKind 107 = .ok (.iload_n 3, 1) := bd29 (btAt dk17dmade_cX11_heapOfKind_40_a 15 rfl)
theorem dX11_heapOfKind_108 : decode cX11_heapOfKind 108 = .ok (.invokespecial 295, 3) := bd183 (a := 1) (b := 39) (btAt dk17dmade_cX11_heapOfKind_40_a 16 rfl)
theorem dX11_heapOfKind_111 : decode cX11_heapOfKind 111 = .ok (.areturn, 1) := bd176 (btAt dk17dmade_cX11_heapOfKind_40_a 17 rfl)
theorem kc_hok0_0 : ∀ w ∈ wsX30, w ∈ wsX11_heapOfKind := fun w h => List.mem_cons_of_mem _ (gin_wsX30 w h)
theorem kc_hok0_1 : (.classLink RX11 117 RX3 : Cond) ∈ wsX11_heapOfKind := kc_of 623 rfl rfl rfl
theorem kc_hok0_2 : (.instantiable RX3 4 : Cond) ∈ wsX11_heapOfKind := kc_of 223 rfl rfl rfl
theorem kc_hok0_3 : (.initialized RX3 : Cond) ∈ wsX11_heapOfKind := kc_of 67 rfl rfl rfl
theorem kc_hok0_4 : (.methodLink RX11 296 yX3_init : Cond) ∈ wsX11_heapOfKind := kc_of 624 rfl rfl rfl
theorem kc_hok0_5 : (.instanceMethod yX3_init : Cond) ∈ wsX11_heapOfKind := kc_of 225 rfl rfl rfl
set_option maxHeartbeats 4000000 in
set_option maxRecDepth 100000 in
theorem c_hok0 (l : Launch) (dC : Nat → ClassId) (dI : Nat → Nat → Nat) (n : Nat) (x y : Int32) (sz : Nat) : Met l yX11_heapOfKind wsX11_heapOfKind ({ frames := 2, cells := 1, slots := 4, locals := 36 } : Room) (va_Pc [.int 0, .int (nI n), .int x, .int y] (fun U => U.heap.size = sz ∧ va_P (dC, dI) vwCl [] U.heap ∧ va_K (dC, dI) vwCl [] U ∧ va_D (fun _ => True) [])) (va_Qq (fun (r : Option Nat) (u : Nat) => match u with | qn => r = some qn) (fun (u : Nat) (t : State) => match u with | qn => va_P (dC, dI) vwCl [(zo5iiii qn 0 (nI n) x y)] t.heap ∧ va_K (dC, dI) vwCl [] t ∧ va_D (va_A [] sz) [(zo5iiii qn 0 (nI n) x y)]) (va_A [] sz)) 1 4 (va_A [] sz) := by
  refine met_ofQ (cc := cX11_heapOfKind) (maxL := 4) (ret := (some (.object "MistHeaps$Heap"))) (by decide) rfl ?_
  intro p e s m args below meth c s₁ Q B hml hv hQ
  obtain ⟨rfl, hsz, hP, hK, hD0⟩ := hv
  have hx := B.exec
  have hb := B.bytes
  have hr := B.returns
  have hts := atoms_spec (ws := wsX11_heapOfKind) B.pre
  have hown : s.vm.findClass RX11 = some m.cls := findClass_of_methodNamed B.named
  have hlocks := B.notSynchronized
  subst hsz
  have hD := hD0.self (sz := s.heap.size)
  generalize hAe : va_A [] s.heap.size = A at hD hQ ⊢
  have hA : ∀ q : Nat, s.heap.size ≤ q → A q := fun q h => by rw [← hAe]; exact Or.inr h
  have hS : va_S A s.heap s.heap [] := va_S.rf
  have hl := lv_entry [.int 0, .int (nI n), .int x, .int y] (n := 4) (Nat.le_of_ble_eq_true rfl)
  rw [lg_entry_eq]
  generalize (lg_sl [.int 0, .int (nI n), .int x, .int y] ++ List.replicate (4 - (lg_sl [.int 0, .int (nI n), .int x, .int y]).length) Slot.unset).toArray = ls at hl ⊢
  generalize hag : ([.int 0, .int (nI n), .int x, .int y] : List Value).toArray = args at hts hQ ⊢
  have hl : lv_has ls 4 [(0, .int 0), (1, .int (nI n)), (2, .int x), (3, .int y)] := hl
  obtain ⟨H, hH⟩ : ∃ H : Heap, H = s.heap := ⟨_, rfl⟩
  rw [← hH] at hP
  rw [← hH]
  have hS : va_S A s.heap H [] := by rw [hH]; exact hS
  obtain ⟨locs, hlo⟩ : ∃ L : List Loc, L = [] := ⟨_, rfl⟩
  rw [← hlo] at hS
  rw [← hlo]
  clear hH hlo
  refine lv_iload_n hx hb dX11_heapOfKind_0 rfl (lv_at hl 0 rfl) ?_
  refine lv_tableOut (tgt := 112) hx hb dX11_heapOfKind_1 (by decide) (by decide) ?_
  refine va_new (ci := 5) (fs := [.int 0, .int 0, .int 0, .int 0]) (C := RX3) (T := TX3) (N := 4) hx hb hts kc_hok0_0 tyX3 tyX3_ok hown (hts (.classLink RX11 117 RX3) kc_hok0_1) (hts (.instantiable RX3 4) kc_hok0_2) (hts (.initialized RX3) kc_hok0_3) hK hP hD hS hA rfl (fun j hj => by rcases (show j = 0 ∨ j = 1 ∨ j = 2 ∨ j = 3 by omega) with rfl | rfl | rfl | rfl <;> rfl) (Nat.le_of_ble_eq_true rfl) (Nat.le_of_ble_eq_true rfl) dX11_heapOfKind_112 (fun q_1 H hP hD hS => ?_)
  have hP : va_P (dC, dI) vwCl [(zo5iiii q_1 0 0 0 0)] H := hP
  have hD : va_D A [(zo5iiii q_1 0 0 0 0)] := hD
  refine W.widen (k := 1) (n := 4) (by omega) (by omega) ?_
  refine lv_dup hx hb dX11_heapOfKind_115 rfl ?_
  refine lv_iload_n hx hb dX11_heapOfKind_116 rfl (lv_at hl 0 rfl) ?_
  refine lv_iload_n hx hb dX11_heapOfKind_117 rfl (lv_at hl 1 rfl) ?_
  refine lv_iload_n hx hb dX11_heapOfKind_118 rfl (lv_at hl 2 rfl) ?_
  refine lv_iload_n hx hb dX11_heapOfKind_119 rfl (lv_at hl 3 rfl) ?_
  have hPc := hP.sub (ws' := [(zo5iiii q_1 0 0 0 0)]) [0] rfl
  have hDc := hD.sub (ws' := [(zo5iiii q_1 0 0 0 0)]) [0] (by decide) rfl
  have hKc := hK.sub (tys' := []) [] rfl
  have hFc := va_free (wc := [(zo5iiii q_1 0 0 0 0)]) hD hS hA [0] rfl
  refine va_callv (va_runI (As := [.int 0, .int (nI n), .int x, .int y]) (rest := [.ref q_1]) ⟨hx, hb, hml, hown, hts⟩ (c_h3_X3 l dC dI q_1 0 (nI n) x y H.size) (cwI 4 hts ggX11_heapOfKind_X3_init rfl rfl rfl (hts (.initialized RX3) kc_hok0_3) (hts (.methodLink RX11 296 yX3_init) kc_hok0_4) (hts (.instanceMethod yX3_init) kc_hok0_5) rfl (by decide +kernel) ⟨Nat.le_of_ble_eq_true rfl, Nat.le_of_ble_eq_true rfl⟩) ⟨fun a U g mk q => by obtain ⟨q0, q1, qP, qK, qD⟩ := q; exact ⟨q0, mvz g mk a q1, mvP g mk a qP, mvK g mk a qK, qD⟩, fun U hU hW => ⟨rfl, by rw [hU], by rw [hU]; exact hPc, va_K.moved hW.alike hKc, hDc.weaken (fun _ _ _ _ => trivial)⟩⟩ rfl rfl hl.1 rfl (lv_room (Nat.le_of_ble_eq_true rfl)) dX11_heapOfKind_120 ⟨Nat.le_of_ble_eq_true rfl, Nat.le_of_ble_eq_true rfl⟩) hS (fun q _ h => hFc q h) hFc (fun u tC H1 locs htC hvm hw_3 hB hz1 hk1 hS => ?_)
  obtain ⟨⟩ := u
  try dsimp only at hw_3 hB
  obtain ⟨hP1, hK1, hD1⟩ := hB
  rw [htC] at hP1
  have hK1 := va_K.moved hvm.symm hK1
  obtain ⟨hP, hD⟩ := va_join (wr := []) (w1 := [(zo5iiii q_1 0 (nI n) x y)]) hP hD [0] [] rfl rfl (by decide) (by decide) hk1 hFc hP1 hD1
  have hK := (hK.sub (tys' := []) [] rfl).app hK1
  generalize H1 = H at hP hS ⊢
  have hP : va_P (dC, dI) vwCl [(zo5iiii q_1 0 (nI n) x y)] H := hP
  have hD : va_D A [(zo5iiii q_1 0 (nI n) x y)] := hD
  have hK : va_K (dC, dI) vwCl [] s := hK
  rw [hQ]
  have hP9 := hP.sub (ws' := [(zo5iiii q_1 0 (nI n) x y)]) [0] rfl
  have hD9 := hD.sub (ws' := [(zo5iiii q_1 0 (nI n) x y)]) [0] (by decide) rfl
  have hK9 := hK.sub (tys' := []) [] rfl
  exact W.aret (v := .ref q_1) hx hb hr (Or.inl ⟨_, rfl⟩) (Or.inr ⟨_, rfl⟩) (fun tQ htQ hWQ => ⟨⟨some q_1, q_1, rfl, rfl, by rw [htQ]; exact hP9, va_K.moved hWQ.alike hK9, hD9⟩, hS.F htQ⟩) hS.2.2 dX11_heapOfKind_123

theorem kc_hok1_0 : ∀ w ∈ wsX40, w ∈ wsX11_heapOfKind := fun w h => List.mem_cons_of_mem _ (gin_wsX40 w h)
theorem kc_hok1_1 : (.classLink RX11 276 RX4 : Cond) ∈ wsX11_heapOfKind := kc_of 557 rfl rfl rfl
theorem kc_hok1_2 : (.instantiable RX4 4 : Cond) ∈ wsX11_heapOfKind := kc_of 558 rfl rfl rfl
theorem kc_hok1_3 : (.initialized RX4 : Cond) ∈ wsX11_heapOfKind := kc_of 81 rfl rfl rfl
theorem kc_hok1_4 : (.methodLink RX11 278 yX4_init : Cond) ∈ wsX11_heapOfKind := kc_of 559 rfl rfl rfl
theorem kc_hok1_5 : (.instanceMethod yX4_init : Cond) ∈ wsX11_heapOfKind := kc_of 560 rfl rfl rfl
set_option maxHeartbeats 4000000 in
set_option maxRecDepth 100000 in
theorem c_hok1 (l : Launch) (dC : Nat → ClassId) (dI : Nat → Nat → Nat) (n : Nat) (x y : Int32) (sz : Nat) : Met l yX11_heapOfKind wsX11_heapOfKind ({ frames := 3, cells := 1, slots := 4, locals := 60 } : Room) (va_Pc [.int 1, .int (nI n), .int x, .int y] (fun U => U.heap.size = sz ∧ va_P (dC, dI) vwCl [] U.heap ∧ va_K (dC, dI) vwCl [] U ∧ va_D (fun _ => True) [])) (va_Qq (fun (r : Option Nat) (u : Nat) => match u with | qn => r = some qn) (fun (u : Nat) (t : State) => match u with | qn => va_P (dC, dI) vwCl [(zo6iiii qn 1 (nI n) x y)] t.heap ∧ va_K (dC, dI) vwCl [] t ∧ va_D (va_A [] sz) [(zo6iiii qn 1 (nI n) x y)]) (va_A [] sz)) 1 4 (va_A [] sz) := by
  refine met_ofQ (cc := cX11_heapOfKind) (maxL := 4) (ret := (some (.object "MistHeaps$Heap"))) (by decide) rfl ?_
  intro p e s m args below meth c s₁ Q B hml hv hQ
  obtain ⟨rfl, hsz, hP, hK, hD0⟩ := hv
  have hx := B.exec
  have hb := B.bytes
  have hr := B.returns
  have hts := atoms_spec (ws := wsX11_heapOfKind) B.pre
  have hown : s.vm.findClass RX11 = some m.cls := findClass_of_methodNamed B.named
  have hlocks := B.notSynchronized
  subst hsz
  have hD := hD0.self (sz := s.heap.size)
  generalize hAe : va_A [] s.heap.size = A at hD hQ ⊢
  have hA : ∀ q : Nat, s.heap.size ≤ q → A q := fun q h => by rw [← hAe]; exact Or.inr h
  have hS : va_S A s.heap s.heap [] := va_S.rf
  have hl := lv_entry [.int 1, .int (nI n), .int x, .int y] (n := 4) (Nat.le_of_ble_eq_true rfl)
  rw [lg_entry_eq]
  generalize (lg_sl [.int 1, .int (nI n), .int x, .int y] ++ List.replicate (4 - (lg_sl [.int 1, .int (nI n), .int x, .int y]).length) Slot.unset).toArray = ls at hl ⊢
  generalize hag : ([.int 1, .int (nI n), .int x, .int y] : List Value).toArray = args at hts hQ ⊢
  have hl : lv_has ls 4 [(0, .int 1), (1, .int (nI n)), (2, .int x), (3, .int y)] := hl
  obtain ⟨H, hH⟩ : ∃ H : Heap, H = s.heap := ⟨_, rfl⟩
  rw [← hH] at hP
  rw [← hH]
  have hS : va_S A s.heap H [] := by rw [hH]; exact hS
  obtain ⟨locs, hlo⟩ : ∃ L : List Loc, L = [] := ⟨_, rfl⟩
  rw [← hlo] at hS
  rw [← hlo]
  clear hH hlo
  refine lv_iload_n hx hb dX11_heapOfKind_0 rfl (lv_at hl 0 rfl) ?_
  refine lv_tableIn (tgt := 40) hx hb dX11_heapOfKind_1 (by decide) (by decide) rfl (by decide) ?_
  refine va_new (ci := 6) (fs := [.int 0, .int 0, .int 0, .int 0]) (C := RX4) (T := TX4) (N := 4) hx hb hts kc_hok1_0 tyX4 tyX4_ok hown (hts (.classLink RX11 276 RX4) kc_hok1_1) (hts (.instantiable RX4 4) kc_hok1_2) (hts (.initialized RX4) kc_hok1_3) hK hP hD hS hA rfl (fun j hj => by rcases (show j = 0 ∨ j = 1 ∨ j = 2 ∨ j = 3 by omega) with rfl | rfl | rfl | rfl <;> rfl) (Nat.le_of_ble_eq_true rfl) (Nat.le_of_ble_eq_true rfl) dX11_heapOfKind_40 (fun q_1 H hP hD hS => ?_)
  have hP : va_P (dC, dI) vwCl [(zo6iiii q_1 0 0 0 0)] H := hP
  have hD : va_D A [(zo6iiii q_1 0 0 0 0)] := hD
  refine W.widen (k := 1) (n := 4) (by omega) (by omega) ?_
  refine lv_dup hx hb dX11_heapOfKind_43 rfl ?_
  refine lv_iload_n hx hb dX11_heapOfKind_44 rfl (lv_at hl 0 rfl) ?_
  refine lv_iload_n hx hb dX11_heapOfKind_45 rfl (lv_at hl 1 rfl) ?_
  refine lv_iload_n hx hb dX11_heapOfKind_46 rfl (lv_at hl 2 rfl) ?_
  refine lv_iload_n hx hb dX11_heapOfKind_47 rfl (lv_at hl 3 rfl) ?_
  have hPc := hP.sub (ws' := [(zo6iiii q_1 0 0 0 0)]) [0] rfl
  have hDc := hD.sub (ws' := [(zo6iiii q_1 0 0 0 0)]) [0] (by decide) rfl
  have hKc := hK.sub (tys' := []) [] rfl
  have hFc := va_free (wc := [(zo6iiii q_1 0 0 0 0)]) hD hS hA [0] rfl
  refine va_callv (va_runI (As := [.int 1, .int (nI n), .int x, .int y]) (rest := [.ref q_1]) ⟨hx, hb, hml, hown, hts⟩ (c_h4_X4 l dC dI q_1 1 (nI n) x y H.size) (cwI 4 hts ggX11_heapOfKind_X4_init rfl rfl rfl (hts (.initialized RX4) kc_hok1_3) (hts (.methodLink RX11 278 yX4_init) kc_hok1_4) (hts (.instanceMethod yX4_init) kc_hok1_5) rfl (by decide +kernel) ⟨Nat.le_of_ble_eq_true rfl, Nat.le_of_ble_eq_true rfl⟩) ⟨fun a U g mk q => by obtain ⟨q0, q1, qP, qK, qD⟩ := q; exact ⟨q0, mvz g mk a q1, mvP g mk a qP, mvK g mk a qK, qD⟩, fun U hU hW => ⟨rfl, by rw [hU], by rw [hU]; exact hPc, va_K.moved hW.alike hKc, hDc.weaken (fun _ _ _ _ => trivial)⟩⟩ rfl rfl hl.1 rfl (lv_room (Nat.le_of_ble_eq_true rfl)) dX11_heapOfKind_48 ⟨Nat.le_of_ble_eq_true rfl, Nat.le_of_ble_eq_true rfl⟩) hS (fun q _ h => hFc q h) hFc (fun u tC H1 locs htC hvm hw_3 hB hz1 hk1 hS => ?_)
  obtain ⟨⟩ := u
  try dsimp only at hw_3 hB
  obtain ⟨hP1, hK1, hD1⟩ := hB
  rw [htC] at hP1
  have hK1 := va_K.moved hvm.symm hK1
  obtain ⟨hP, hD⟩ := va_join (wr := []) (w1 := [(zo6iiii q_1 1 (nI n) x y)]) hP hD [0] [] rfl rfl (by decide) (by decide) hk1 hFc hP1 hD1
  have hK := (hK.sub (tys' := []) [] rfl).app hK1
  generalize H1 = H at hP hS ⊢
  have hP : va_P (dC, dI) vwCl [(zo6iiii q_1 1 (nI n) x y)] H := hP
  have hD : va_D A [(zo6iiii q_1 1 (nI n) x y)] := hD
  have hK : va_K (dC, dI) vwCl [] s := hK
  rw [hQ]
  have hP9 := hP.sub (ws' := [(zo6iiii q_1 1 (nI n) x y)]) [0] rfl
  have hD9 := hD.sub (ws' := [(zo6iiii q_1 1 (nI n) x y)]) [0] (by decide) rfl
  have hK9 := hK.sub (tys' := []) [] rfl
  exact W.aret (v := .ref q_1) hx hb hr (Or.inl ⟨_, rfl⟩) (Or.inr ⟨_, rfl⟩) (fun tQ htQ hWQ => ⟨⟨some q_1, q_1, rfl, rfl, by rw [htQ]; exact hP9, va_K.moved hWQ.alike hK9, hD9⟩, hS.F htQ⟩) hS.2.2 dX11_heapOfKind_51

theorem kc_hok2_0 : ∀ w ∈ wsX60, w ∈ wsX11_heapOfKind := fun w h => List.mem_cons_of_mem _ (gin_wsX60 w h)
theorem kc_hok2_1 : (.classLink RX11 281 RX6 : Cond) ∈ wsX11_heapOfKind := kc_of 568 rfl rfl rfl
theorem kc_hok2_2 : (.instantiable RX6 4 : Cond) ∈ wsX11_heapOfKind := kc_of 569 rfl rfl rfl
theorem kc_hok2_3 : (.initialized RX6 : Cond) ∈ wsX11_heapOfKind := kc_of 82 rfl rfl rfl
theorem kc_hok2_4 : (.methodLink RX11 283 yX6_init : Cond) ∈ wsX11_heapOfKind := kc_of 570 rfl rfl rfl
theorem kc_hok2_5 : (.instanceMethod yX6_init : Cond) ∈ wsX11_heapOfKind := kc_of 571 rfl rfl rfl
set_option maxHeartbeats 4000000 in
set_option maxRecDepth 100000 in
theorem c_hok2 (l : Launch) (dC : Nat → ClassId) (dI : Nat → Nat → Nat) (n : Nat) (x y : Int32) (sz : Nat) : Met l yX11_heapOfKind wsX11_heapOfKind ({ frames := 3, cells := 1, slots := 4, locals := 60 } : Room) (va_Pc [.int 2, .int (nI n), .int x, .int y] (fun U => U.heap.size = sz ∧ va_P (dC, dI) vwCl [] U.heap ∧ va_K (dC, dI) vwCl [] U ∧ va_D (fun _ => True) [])) (va_Qq (fun (r : Option Nat) (u : Nat) => match u with | qn => r = some qn) (fun (u : Nat) (t : State) => match u with | qn => va_P (dC, dI) vwCl [(zo8iiii qn 2 (nI n) x y)] t.heap ∧ va_K (dC, dI) vwCl [] t ∧ va_D (va_A [] sz) [(zo8iiii qn 2 (nI n) x y)]) (va_A [] sz)) 1 4 (va_A [] sz) := by
  refine met_ofQ (cc := cX11_heapOfKind) (maxL := 4) (ret := (some (.object "MistHeaps$Heap"))) (by decide) rfl ?_
  intro p e s m args below meth c s₁ Q B hml hv hQ
  obtain ⟨rfl, hsz, hP, hK, hD0⟩ := hv
  have hx := B.exec
  have hb := B.bytes
  have hr := B.returns
  have hts := atoms_spec (ws := wsX11_heapOfKind) B.pre
  have hown : s.vm.findClass RX11 = some m.cls := findClass_of_methodNamed B.named
  have hlocks := B.notSynchronized
  subst hsz
  have hD := hD0.self (sz := s.heap.size)
  generalize hAe : va_A [] s.heap.size = A at hD hQ ⊢
  have hA : ∀ q : Nat, s.heap.size ≤ q → A q := fun q h => by rw [← hAe]; exact Or.inr h
  have hS : va_S A s.heap s.heap [] := va_S.rf
  have hl := lv_entry [.int 2, .int (nI n), .int x, .int y] (n := 4) (Nat.le_of_ble_eq_true rfl)
  rw [lg_entry_eq]
  generalize (lg_sl [.int 2, .int (nI n), .int x, .int y] ++ List.replicate (4 - (lg_sl [.int 2, .int (nI n), .int x, .int y]).length) Slot.unset).toArray = ls at hl ⊢
  generalize hag : ([.int 2, .int (nI n), .int x, .int y] : List Value).toArray = args at hts hQ ⊢
  have hl : lv_has ls 4 [(0, .int 2), (1, .int (nI n)), (2, .int x), (3, .int y)] := hl
  obtain ⟨H, hH⟩ : ∃ H : Heap, H = s.heap := ⟨_, rfl⟩
  rw [← hH] at hP
  rw [← hH]
  have hS : va_S A s.heap H [] := by rw [hH]; exact hS
  obtain ⟨locs, hlo⟩ : ∃ L : List Loc, L = [] := ⟨_, rfl⟩
  rw [← hlo] at hS
  rw [← hlo]
  clear hH hlo
  refine lv_iload_n hx hb dX11_heapOfKind_0 rfl (lv_at hl 0 rfl) ?_
  refine lv_tableIn (tgt := 52) hx hb dX11_heapOfKind_1 (by decide) (by decide) rfl (by decide) ?_
  refine va_new (ci := 8) (fs := [.int 0, .int 0, .int 0, .int 0]) (C := RX6) (T := TX6) (N := 4) hx hb hts kc_hok2_0 tyX6 tyX6_ok hown (hts (.classLink RX11 281 RX6) kc_hok2_1) (hts (.instantiable RX6 4) kc_hok2_2) (hts (.initialized RX6) kc_hok2_3) hK hP hD hS hA rfl (fun j hj => by rcases (show j = 0 ∨ j = 1 ∨ j = 2 ∨ j = 3 by omega) with rfl | rfl | rfl | rfl <;> rfl) (Nat.le_of_ble_eq_true rfl) (Nat.le_of_ble_eq_true rfl) dX11_heapOfKind_52 (fun q_1 H hP hD hS => ?_)
  have hP : va_P (dC, dI) vwCl [(zo8iiii q_1 0 0 0 0)] H := hP
  have hD : va_D A [(zo8iiii q_1 0 0 0 0)] := hD
  refine W.widen (k := 1) (n := 4) (by omega) (by omega) ?_
  refine lv_dup hx hb dX11_heapOfKind_55 rfl ?_
  refine lv_iload_n hx hb dX11_heapOfKind_56 rfl (lv_at hl 0 rfl) ?_
  refine lv_iload_n hx hb dX11_heapOfKind_57 rfl (lv_at hl 1 rfl) ?_
  refine lv_iload_n hx hb dX11_heapOfKind_58 rfl (lv_at hl 2 rfl) ?_
  refine lv_iload_n hx hb dX11_heapOfKind_59 rfl (lv_at hl 3 rfl) ?_
  have hPc := hP.sub (ws' := [(zo8iiii q_1 0 0 0 0)]) [0] rfl
  have hDc := hD.sub (ws' := [(zo8iiii q_1 0 0 0 0)]) [0] (by decide) rfl
  have hKc := hK.sub (tys' := []) [] rfl
  have hFc := va_free (wc := [(zo8iiii q_1 0 0 0 0)]) hD hS hA [0] rfl
  refine va_callv (va_runI (As := [.int 2, .int (nI n), .int x, .int y]) (rest := [.ref q_1]) ⟨hx, hb, hml, hown, hts⟩ (c_h6_X6 l dC dI q_1 2 (nI n) x y H.size) (cwI 4 hts ggX11_heapOfKind_X6_init rfl rfl rfl (hts (.initialized RX6) kc_hok2_3) (hts (.methodLink RX11 283 yX6_init) kc_hok2_4) (hts (.instanceMethod yX6_init) kc_hok2_5) rfl (by decide +kernel) ⟨Nat.le_of_ble_eq_true rfl, Nat.le_of_ble_eq_true rfl⟩) ⟨fun a U g mk q => by obtain ⟨q0, q1, qP, qK, qD⟩ := q; exact ⟨q0, mvz g mk a q1, mvP g mk a qP, mvK g mk a qK, qD⟩, fun U hU hW => ⟨rfl, by rw [hU], by rw [hU]; exact hPc, va_K.moved hW.alike hKc, hDc.weaken (fun _ _ _ _ => trivial)⟩⟩ rfl rfl hl.1 rfl (lv_room (Nat.le_of_ble_eq_true rfl)) dX11_heapOfKind_60 ⟨Nat.le_of_ble_eq_true rfl, Nat.le_of_ble_eq_true rfl⟩) hS (fun q _ h => hFc q h) hFc (fun u tC H1 locs htC hvm hw_3 hB hz1 hk1 hS => ?_)
  obtain ⟨⟩ := u
  try dsimp only at hw_3 hB
  obtain ⟨hP1, hK1, hD1⟩ := hB
  rw [htC] at hP1
  have hK1 := va_K.moved hvm.symm hK1
  obtain ⟨hP, hD⟩ := va_join (wr := []) (w1 := [(zo8iiii q_1 2 (nI n) x y)]) hP hD [0] [] rfl rfl (by decide) (by decide) hk1 hFc hP1 hD1
  have hK := (hK.sub (tys' := []) [] rfl).app hK1
  generalize H1 = H at hP hS ⊢
  have hP : va_P (dC, dI) vwCl [(zo8iiii q_1 2 (nI n) x y)] H := hP
  have hD : va_D A [(zo8iiii q_1 2 (nI n) x y)] := hD
  have hK : va_K (dC, dI) vwCl [] s := hK
  rw [hQ]
  have hP9 := hP.sub (ws' := [(zo8iiii q_1 2 (nI n) x y)]) [0] rfl
  have hD9 := hD.sub (ws' := [(zo8iiii q_1 2 (nI n) x y)]) [0] (by decide) rfl
  have hK9 := hK.sub (tys' := []) [] rfl
  exact W.aret (v := .ref q_1) hx hb hr (Or.inl ⟨_, rfl⟩) (Or.inr ⟨_, rfl⟩) (fun tQ htQ hWQ => ⟨⟨some q_1, q_1, rfl, rfl, by rw [htQ]; exact hP9, va_K.moved hWQ.alike hK9, hD9⟩, hS.F htQ⟩) hS.2.2 dX11_heapOfKind_63

theorem kc_hok3_0 : ∀ w ∈ wsX10, w ∈ wsX11_heapOfKind := fun w h => List.mem_cons_of_mem _ (gin_wsX10 w h)
theorem kc_hok3_1 : (.classLink RX11 284 RX1 : Cond) ∈ wsX11_heapOfKind := kc_of 579 rfl rfl rfl
theorem kc_hok3_2 : (.instantiable RX1 4 : Cond) ∈ wsX11_heapOfKind := kc_of 580 rfl rfl rfl
theorem kc_hok3_3 : (.initialized RX1 : Cond) ∈ wsX11_heapOfKind := kc_of 83 rfl rfl rfl
theorem kc_hok3_4 : (.methodLink RX11 286 yX1_init : Cond) ∈ wsX11_heapOfKind := kc_of 581 rfl rfl rfl
theorem kc_hok3_5 : (.instanceMethod yX1_init : Cond) ∈ wsX11_heapOfKind := kc_of 582 rfl rfl rfl
set_option maxHeartbeats 4000000 in
set_option maxRecDepth 100000 in
theorem c_hok3 (l : Launch) (dC : Nat → ClassId) (dI : Nat → Nat → Nat) (n : Nat) (x y : Int32) (sz : Nat) : Met l yX11_heapOfKind wsX11_heapOfKind ({ frames := 3, cells := 1, slots := 4, locals := 60 } : Room) (va_Pc [.int 3, .int (nI n), .int x, .int y] (fun U => U.heap.size = sz ∧ va_P (dC, dI) vwCl [] U.heap ∧ va_K (dC, dI) vwCl [] U ∧ va_D (fun _ => True) [])) (va_Qq (fun (r : Option Nat) (u : Nat) => match u with | qn => r = some qn) (fun (u : Nat) (t : State) => match u with | qn => va_P (dC, dI) vwCl [(zo3iiii qn 3 (nI n) x y)] t.heap ∧ va_K (dC, dI) vwCl [] t ∧ va_D (va_A [] sz) [(zo3iiii qn 3 (nI n) x y)]) (va_A [] sz)) 1 4 (va_A [] sz) := by
  refine met_ofQ (cc := cX11_heapOfKind) (maxL := 4) (ret := (some (.object "MistHeaps$Heap"))) (by decide) rfl ?_
  intro p e s m args below meth c s₁ Q B hml hv hQ
  obtain ⟨rfl, hsz, hP, hK, hD0⟩ := hv
  have hx := B.exec
  have hb := B.bytes
  have hr := B.returns
  have hts := atoms_spec (ws := wsX11_heapOfKind) B.pre
  have hown : s.vm.findClass RX11 = some m.cls := findClass_of_methodNamed B.named
  have hlocks := B.notSynchronized
  subst hsz
  have hD := hD0.self (sz := s.heap.size)
  generalize hAe : va_A [] s.heap.size = A at hD hQ ⊢
  have hA : ∀ q : Nat, s.heap.size ≤ q → A q := fun q h => by rw [← hAe]; exact Or.inr h
  have hS : va_S A s.heap s.heap [] := va_S.rf
  have hl := lv_entry [.int 3, .int (nI n), .int x, .int y] (n := 4) (Nat.le_of_ble_eq_true rfl)
  rw [lg_entry_eq]
  generalize (lg_sl [.int 3, .int (nI n), .int x, .int y] ++ List.replicate (4 - (lg_sl [.int 3, .int (nI n), .int x, .int y]).length) Slot.unset).toArray = ls at hl ⊢
  generalize hag : ([.int 3, .int (nI n), .int x, .int y] : List Value).toArray = args at hts hQ ⊢
  have hl : lv_has ls 4 [(0, .int 3), (1, .int (nI n)), (2, .int x), (3, .int y)] := hl
  obtain ⟨H, hH⟩ : ∃ H : Heap, H = s.heap := ⟨_, rfl⟩
  rw [← hH] at hP
  rw [← hH]
  have hS : va_S A s.heap H [] := by rw [hH]; exact hS
  obtain ⟨locs, hlo⟩ : ∃ L : List Loc, L = [] := ⟨_, rfl⟩
  rw [← hlo] at hS
  rw [← hlo]
  clear hH hlo
  refine lv_iload_n hx hb dX11_heapOfKind_0 rfl (lv_at hl 0 rfl) ?_
  refine lv_tableIn (tgt := 64) hx hb dX11_heapOfKind_1 (by decide) (by decide) rfl (by decide) ?_
  refine va_new (ci := 3) (fs := [.int 0, .int 0, .int 0, .int 0]) (C := RX1) (T := TX1) (N := 4) hx hb hts kc_hok3_0 tyX1 tyX1_ok hown (hts (.classLink RX11 284 RX1) kc_hok3_1) (hts (.instantiable RX1 4) kc_hok3_2) (hts (.initialized RX1) kc_hok3_3) hK hP hD hS hA rfl (fun j hj => by rcases (show j = 0 ∨ j = 1 ∨ j = 2 ∨ j = 3 by omega) with rfl | rfl | rfl | rfl <;> rfl) (Nat.le_of_ble_eq_true rfl) (Nat.le_of_ble_eq_true rfl) dX11_heapOfKind_64 (fun q_1 H hP hD hS => ?_)
  have hP : va_P (dC, dI) vwCl [(zo3iiii q_1 0 0 0 0)] H := hP
  have hD : va_D A [(zo3iiii q_1 0 0 0 0)] := hD
  refine W.widen (k := 1) (n := 4) (by omega) (by omega) ?_
  refine lv_dup hx hb dX11_heapOfKind_67 rfl ?_
  refine lv_iload_n hx hb dX11_heapOfKind_68 rfl (lv_at hl 0 rfl) ?_
  refine lv_iload_n hx hb dX11_heapOfKind_69 rfl (lv_at hl 1 rfl) ?_
  refine lv_iload_n hx hb dX11_heapOfKind_70 rfl (lv_at hl 2 rfl) ?_
  refine lv_iload_n hx hb dX11_heapOfKind_71 rfl (lv_at hl 3 rfl) ?_
  have hPc := hP.sub (ws' := [(zo3iiii q_1 0 0 0 0)]) [0] rfl
  have hDc := hD.sub (ws' := [(zo3iiii q_1 0 0 0 0)]) [0] (by decide) rfl
  have hKc := hK.sub (tys' := []) [] rfl
  have hFc := va_free (wc := [(zo3iiii q_1 0 0 0 0)]) hD hS hA [0] rfl
  refine va_callv (va_runI (As := [.int 3, .int (nI n), .int x, .int y]) (rest := [.ref q_1]) ⟨hx, hb, hml, hown, hts⟩ (c_h1_X1 l dC dI q_1 3 (nI n) x y H.size) (cwI 4 hts ggX11_heapOfKind_X1_init rfl rfl rfl (hts (.initialized RX1) kc_hok3_3) (hts (.methodLink RX11 286 yX1_init) kc_hok3_4) (hts (.instanceMethod yX1_init) kc_hok3_5) rfl (by decide +kernel) ⟨Nat.le_of_ble_eq_true rfl, Nat.le_of_ble_eq_true rfl⟩) ⟨fun a U g mk q => by obtain ⟨q0, q1, qP, qK, qD⟩ := q; exact ⟨q0, mvz g mk a q1, mvP g mk a qP, mvK g mk a qK, qD⟩, fun U hU hW => ⟨rfl, by rw [hU], by rw [hU]; exact hPc, va_K.moved hW.alike hKc, hDc.weaken (fun _ _ _ _ => trivial)⟩⟩ rfl rfl hl.1 rfl (lv_room (Nat.le_of_ble_eq_true rfl)) dX11_heapOfKind_72 ⟨Nat.le_of_ble_eq_true rfl, Nat.le_of_ble_eq_true rfl⟩) hS (fun q _ h => hFc q h) hFc (fun u tC H1 locs htC hvm hw_3 hB hz1 hk1 hS => ?_)
  obtain ⟨⟩ := u
  try dsimp only at hw_3 hB
  obtain ⟨hP1, hK1, hD1⟩ := hB
  rw [htC] at hP1
  have hK1 := va_K.moved hvm.symm hK1
  obtain ⟨hP, hD⟩ := va_join (wr := []) (w1 := [(zo3iiii q_1 3 (nI n) x y)]) hP hD [0] [] rfl rfl (by decide) (by decide) hk1 hFc hP1 hD1
  have hK := (hK.sub (tys' := []) [] rfl).app hK1
  generalize H1 = H at hP hS ⊢
  have hP : va_P (dC, dI) vwCl [(zo3iiii q_1 3 (nI n) x y)] H := hP
  have hD : va_D A [(zo3iiii q_1 3 (nI n) x y)] := hD
  have hK : va_K (dC, dI) vwCl [] s := hK
  rw [hQ]
  have hP9 := hP.sub (ws' := [(zo3iiii q_1 3 (nI n) x y)]) [0] rfl
  have hD9 := hD.sub (ws' := [(zo3iiii q_1 3 (nI n) x y)]) [0] (by decide) rfl
  have hK9 := hK.sub (tys' := []) [] rfl
  exact W.aret (v := .ref q_1) hx hb hr (Or.inl ⟨_, rfl⟩) (Or.inr ⟨_, rfl⟩) (fun tQ htQ hWQ => ⟨⟨some q_1, q_1, rfl, rfl, by rw [htQ]; exact hP9, va_K.moved hWQ.alike hK9, hD9⟩, hS.F htQ⟩) hS.2.2 dX11_heapOfKind_75

theorem kc_hok4_0 : ∀ w ∈ wsX100, w ∈ wsX11_heapOfKind := fun w h => List.mem_cons_of_mem _ (gin_wsX100 w h)
theorem kc_hok4_1 : (.classLink RX11 287 RX10 : Cond) ∈ wsX11_heapOfKind := kc_of 590 rfl rfl rfl
theorem kc_hok4_2 : (.instantiable RX10 4 : Cond) ∈ wsX11_heapOfKind := kc_of 591 rfl rfl rfl
theorem kc_hok4_3 : (.initialized RX10 : Cond) ∈ wsX11_heapOfKind := kc_of 84 rfl rfl rfl
theorem kc_hok4_4 : (.methodLink RX11 289 yX10_init : Cond) ∈ wsX11_heapOfKind := kc_of 592 rfl rfl rfl
theorem kc_hok4_5 : (.instanceMethod yX10_init : Cond) ∈ wsX11_heapOfKind := kc_of 593 rfl rfl rfl
set_option maxHeartbeats 4000000 in
set_option maxRecDepth 100000 in
theorem c_hok4 (l : Launch) (dC : Nat → ClassId) (dI : Nat → Nat → Nat) (n : Nat) (x y : Int32) (sz : Nat) : Met l yX11_heapOfKind wsX11_heapOfKind ({ frames := 4, cells := 1, slots := 4, locals := 84 } : Room) (va_Pc [.int 4, .int (nI n), .int x, .int y] (fun U => U.heap.size = sz ∧ va_P (dC, dI) vwCl [] U.heap ∧ va_K (dC, dI) vwCl [] U ∧ va_D (fun _ => True) [])) (va_Qq (fun (r : Option Nat) (u : Nat) => match u with | qn => r = some qn) (fun (u : Nat) (t : State) => match u with | qn => va_P (dC, dI) vwCl [(zo12iiii qn 4 (nI n) x y)] t.heap ∧ va_K (dC, dI) vwCl [] t ∧ va_D (va_A [] sz) [(zo12iiii qn 4 (nI n) x y)]) (va_A [] sz)) 1 4 (va_A [] sz) := by
  refine met_ofQ (cc := cX11_heapOfKind) (maxL := 4) (ret := (some (.object "MistHeaps$Heap"))) (by decide) rfl ?_
  intro p e s m args below meth c s₁ Q B hml hv hQ
  obtain ⟨rfl, hsz, hP, hK, hD0⟩ := hv
  have hx := B.exec
  have hb := B.bytes
  have hr := B.returns
  have hts := atoms_spec (ws := wsX11_heapOfKind) B.pre
  have hown : s.vm.findClass RX11 = some m.cls := findClass_of_methodNamed B.named
  have hlocks := B.notSynchronized
  subst hsz
  have hD := hD0.self (sz := s.heap.size)
  generalize hAe : va_A [] s.heap.size = A at hD hQ ⊢
  have hA : ∀ q : Nat, s.heap.size ≤ q → A q := fun q h => by rw [← hAe]; exact Or.inr h
  have hS : va_S A s.heap s.heap [] := va_S.rf
  have hl := lv_entry [.int 4, .int (nI n), .int x, .int y] (n := 4) (Nat.le_of_ble_eq_true rfl)
  rw [lg_entry_eq]
  generalize (lg_sl [.int 4, .int (nI n), .int x, .int y] ++ List.replicate (4 - (lg_sl [.int 4, .int (nI n), .int x, .int y]).length) Slot.unset).toArray = ls at hl ⊢
  generalize hag : ([.int 4, .int (nI n), .int x, .int y] : List Value).toArray = args at hts hQ ⊢
  have hl : lv_has ls 4 [(0, .int 4), (1, .int (nI n)), (2, .int x), (3, .int y)] := hl
  obtain ⟨H, hH⟩ : ∃ H : Heap, H = s.heap := ⟨_, rfl⟩
  rw [← hH] at hP
  rw [← hH]
  have hS : va_S A s.heap H [] := by rw [hH]; exact hS
  obtain ⟨locs, hlo⟩ : ∃ L : List Loc, L = [] := ⟨_, rfl⟩
  rw [← hlo] at hS
  rw [← hlo]
  clear hH hlo
  refine lv_iload_n hx hb dX11_heapOfKind_0 rfl (lv_at hl 0 rfl) ?_
  refine lv_tableIn (tgt := 76) hx hb dX11_heapOfKind_1 (by decide) (by decide) rfl (by decide) ?_
  refine va_new (ci := 12) (fs := [.int 0, .int 0, .int 0, .int 0]) (C := RX10) (T := TX10) (N := 4) hx hb hts kc_hok4_0 tyX10 tyX10_ok hown (hts (.classLink RX11 287 RX10) kc_hok4_1) (hts (.instantiable RX10 4) kc_hok4_2) (hts (.initialized RX10) kc_hok4_3) hK hP hD hS hA rfl (fun j hj => by rcases (show j = 0 ∨ j = 1 ∨ j = 2 ∨ j = 3 by omega) with rfl | rfl | rfl | rfl <;> rfl) (Nat.le_of_ble_eq_true rfl) (Nat.le_of_ble_eq_true rfl) dX11_heapOfKind_76 (fun q_1 H hP hD hS => ?_)
  have hP : va_P (dC, dI) vwCl [(zo12iiii q_1 0 0 0 0)] H := hP
  have hD : va_D A [(zo12iiii q_1 0 0 0 0)] := hD
  refine W.widen (k := 1) (n := 4) (by omega) (by omega) ?_
  refine lv_dup hx hb dX11_heapOfKind_79 rfl ?_
  refine lv_iload_n hx hb dX11_heapOfKind_80 rfl (lv_at hl 0 rfl) ?_
  refine lv_iload_n hx hb dX11_heapOfKind_81 rfl (lv_at hl 1 rfl) ?_
  refine lv_iload_n hx hb dX11_heapOfKind_82 rfl (lv_at hl 2 rfl) ?_
  refine lv_iload_n hx hb dX11_heapOfKind_83 rfl (lv_at hl 3 rfl) ?_
  have hPc := hP.sub (ws' := [(zo12iiii q_1 0 0 0 0)]) [0] rfl
  have hDc := hD.sub (ws' := [(zo12iiii q_1 0 0 0 0)]) [0] (by decide) rfl
  have hKc := hK.sub (tys' := []) [] rfl
  have hFc := va_free (wc := [(zo12iiii q_1 0 0 0 0)]) hD hS hA [0] rfl
  refine va_callv (va_runI (As := [.int 4, .int (nI n), .int x, .int y]) (rest := [.ref q_1]) ⟨hx, hb, hml, hown, hts⟩ (c_h10_X10 l dC dI q_1 4 (nI n) x y H.size) (cwI 4 hts ggX11_heapOfKind_X10_init rfl rfl rfl (hts (.initialized RX10) kc_hok4_3) (hts (.methodLink RX11 289 yX10_init) kc_hok4_4) (hts (.instanceMethod yX10_init) kc_hok4_5) rfl (by decide +kernel) ⟨Nat.le_of_ble_eq_true rfl, Nat.le_of_ble_eq_true rfl⟩) ⟨fun a U g mk q => by obtain ⟨q0, q1, qP, qK, qD⟩ := q; exact ⟨q0, mvz g mk a q1, mvP g mk a qP, mvK g mk a qK, qD⟩, fun U hU hW => ⟨rfl, by rw [hU], by rw [hU]; exact hPc, va_K.moved hW.alike hKc, hDc.weaken (fun _ _ _ _ => trivial)⟩⟩ rfl rfl hl.1 rfl (lv_room (Nat.le_of_ble_eq_true rfl)) dX11_heapOfKind_84 ⟨Nat.le_of_ble_eq_true rfl, Nat.le_of_ble_eq_true rfl⟩) hS (fun q _ h => hFc q h) hFc (fun u tC H1 locs htC hvm hw_3 hB hz1 hk1 hS => ?_)
  obtain ⟨⟩ := u
  try dsimp only at hw_3 hB
  obtain ⟨hP1, hK1, hD1⟩ := hB
  rw [htC] at hP1
  have hK1 := va_K.moved hvm.symm hK1
  obtain ⟨hP, hD⟩ := va_join (wr := []) (w1 := [(zo12iiii q_1 4 (nI n) x y)]) hP hD [0] [] rfl rfl (by decide) (by decide) hk1 hFc hP1 hD1
  have hK := (hK.sub (tys' := []) [] rfl).app hK1
  generalize H1 = H at hP hS ⊢
  have hP : va_P (dC, dI) vwCl [(zo12iiii q_1 4 (nI n) x y)] H := hP
  have hD : va_D A [(zo12iiii q_1 4 (nI n) x y)] := hD
  have hK : va_K (dC, dI) vwCl [] s := hK
  rw [hQ]
  have hP9 := hP.sub (ws' := [(zo12iiii q_1 4 (nI n) x y)]) [0] rfl
  have hD9 := hD.sub (ws' := [(zo12iiii q_1 4 (nI n) x y)]) [0] (by decide) rfl
  have hK9 := hK.sub (tys' := []) [] rfl
  exact W.aret (v := .ref q_1) hx hb hr (Or.inl ⟨_, rfl⟩) (Or.inr ⟨_, rfl⟩) (fun tQ htQ hWQ => ⟨⟨some q_1, q_1, rfl, rfl, by rw [htQ]; exact hP9, va_K.moved hWQ.alike hK9, hD9⟩, hS.F htQ⟩) hS.2.2 dX11_heapOfKind_87

theorem kc_hok5_0 : ∀ w ∈ wsX90, w ∈ wsX11_heapOfKind := fun w h => List.mem_cons_of_mem _ (gin_wsX90 w h)
theorem kc_hok5_1 : (.classLink RX11 290 RX9 : Cond) ∈ wsX11_heapOfKind := kc_of 601 rfl rfl rfl
theorem kc_hok5_2 : (.instantiable RX9 4 : Cond) ∈ wsX11_heapOfKind := kc_of 602 rfl rfl rfl
theorem kc_hok5_3 : (.initialized RX9 : Cond) ∈ wsX11_heapOfKind := kc_of 85 rfl rfl rfl
theorem kc_hok5_4 : (.methodLink RX11 292 yX9_init : Cond) ∈ wsX11_heapOfKind := kc_of 603 rfl rfl rfl
theorem kc_hok5_5 : (.instanceMethod yX9_init : Cond) ∈ wsX11_heapOfKind := kc_of 604 rfl rfl rfl
set_option maxHeartbeats 4000000 in
set_option maxRecDepth 100000 in
theorem c_hok5 (l : Launch) (dC : Nat → ClassId) (dI : Nat → Nat → Nat) (n : Nat) (x y : Int32) (sz : Nat) : Met l yX11_heapOfKind wsX11_heapOfKind ({ frames := 4, cells := 1, slots := 4, locals := 84 } : Room) (va_Pc [.int 5, .int (nI n), .int x, .int y] (fun U => U.heap.size = sz ∧ va_P (dC, dI) vwCl [] U.heap ∧ va_K (dC, dI) vwCl [] U ∧ va_D (fun _ => True) [])) (va_Qq (fun (r : Option Nat) (u : Nat) => match u with | qn => r = some qn) (fun (u : Nat) (t : State) => match u with | qn => va_P (dC, dI) vwCl [(zo11iiii qn 5 (nI n) x y)] t.heap ∧ va_K (dC, dI) vwCl [] t ∧ va_D (va_A [] sz) [(zo11iiii qn 5 (nI n) x y)]) (va_A [] sz)) 1 4 (va_A [] sz) := by
  refine met_ofQ (cc := cX11_heapOfKind) (maxL := 4) (ret := (some (.object "MistHeaps$Heap"))) (by decide) rfl ?_
  intro p e s m args below meth c s₁ Q B hml hv hQ
  obtain ⟨rfl, hsz, hP, hK, hD0⟩ := hv
  have hx := B.exec
  have hb := B.bytes
  have hr := B.returns
  have hts := atoms_spec (ws := wsX11_heapOfKind) B.pre
  have hown : s.vm.findClass RX11 = some m.cls := findClass_of_methodNamed B.named
  have hlocks := B.notSynchronized
  subst hsz
  have hD := hD0.self (sz := s.heap.size)
  generalize hAe : va_A [] s.heap.size = A at hD hQ ⊢
  have hA : ∀ q : Nat, s.heap.size ≤ q → A q := fun q h => by rw [← hAe]; exact Or.inr h
  have hS : va_S A s.heap s.heap [] := va_S.rf
  have hl := lv_entry [.int 5, .int (nI n), .int x, .int y] (n := 4) (Nat.le_of_ble_eq_true rfl)
  rw [lg_entry_eq]
  generalize (lg_sl [.int 5, .int (nI n), .int x, .int y] ++ List.replicate (4 - (lg_sl [.int 5, .int (nI n), .int x, .int y]).length) Slot.unset).toArray = ls at hl ⊢
  generalize hag : ([.int 5, .int (nI n), .int x, .int y] : List Value).toArray = args at hts hQ ⊢
  have hl : lv_has ls 4 [(0, .int 5), (1, .int (nI n)), (2, .int x), (3, .int y)] := hl
  obtain ⟨H, hH⟩ : ∃ H : Heap, H = s.heap := ⟨_, rfl⟩
  rw [← hH] at hP
  rw [← hH]
  have hS : va_S A s.heap H [] := by rw [hH]; exact hS
  obtain ⟨locs, hlo⟩ : ∃ L : List Loc, L = [] := ⟨_, rfl⟩
  rw [← hlo] at hS
  rw [← hlo]
  clear hH hlo
  refine lv_iload_n hx hb dX11_heapOfKind_0 rfl (lv_at hl 0 rfl) ?_
  refine lv_tableIn (tgt := 88) hx hb dX11_heapOfKind_1 (by decide) (by decide) rfl (by decide) ?_
  refine va_new (ci := 11) (fs := [.int 0, .int 0, .int 0, .int 0]) (C := RX9) (T := TX9) (N := 4) hx hb hts kc_hok5_0 tyX9 tyX9_ok hown (hts (.classLink RX11 290 RX9) kc_hok5_1) (hts (.instantiable RX9 4) kc_hok5_2) (hts (.initialized RX9) kc_hok5_3) hK hP hD hS hA rfl (fun j hj => by rcases (show j = 0 ∨ j = 1 ∨ j = 2 ∨ j = 3 by omega) with rfl | rfl | rfl | rfl <;> rfl) (Nat.le_of_ble_eq_true rfl) (Nat.le_of_ble_eq_true rfl) dX11_heapOfKind_88 (fun q_1 H hP hD hS => ?_)
  have hP : va_P (dC, dI) vwCl [(zo11iiii q_1 0 0 0 0)] H := hP
  have hD : va_D A [(zo11iiii q_1 0 0 0 0)] := hD
  refine W.widen (k := 1) (n := 4) (by omega) (by omega) ?_
  refine lv_dup hx hb dX11_heapOfKind_91 rfl ?_
  refine lv_iload_n hx hb dX11_heapOfKind_92 rfl (lv_at hl 0 rfl) ?_
  refine lv_iload_n hx hb dX11_heapOfKind_93 rfl (lv_at hl 1 rfl) ?_
  refine lv_iload_n hx hb dX11_heapOfKind_94 rfl (lv_at hl 2 rfl) ?_
  refine lv_iload_n hx hb dX11_heapOfKind_95 rfl (lv_at hl 3 rfl) ?_
  have hPc := hP.sub (ws' := [(zo11iiii q_1 0 0 0 0)]) [0] rfl
  have hDc := hD.sub (ws' := [(zo11iiii q_1 0 0 0 0)]) [0] (by decide) rfl
  have hKc := hK.sub (tys' := []) [] rfl
  have hFc := va_free (wc := [(zo11iiii q_1 0 0 0 0)]) hD hS hA [0] rfl
  refine va_callv (va_runI (As := [.int 5, .int (nI n), .int x, .int y]) (rest := [.ref q_1]) ⟨hx, hb, hml, hown, hts⟩ (c_h9_X9 l dC dI q_1 5 (nI n) x y H.size) (cwI 4 hts ggX11_heapOfKind_X9_init rfl rfl rfl (hts (.initialized RX9) kc_hok5_3) (hts (.methodLink RX11 292 yX9_init) kc_hok5_4) (hts (.instanceMethod yX9_init) kc_hok5_5) rfl (by decide +kernel) ⟨Nat.le_of_ble_eq_true rfl, Nat.le_of_ble_eq_true rfl⟩) ⟨fun a U g mk q => by obtain ⟨q0, q1, qP, qK, qD⟩ := q; exact ⟨q0, mvz g mk a q1, mvP g mk a qP, mvK g mk a qK, qD⟩, fun U hU hW => ⟨rfl, by rw [hU], by rw [hU]; exact hPc, va_K.moved hW.alike hKc, hDc.weaken (fun _ _ _ _ => trivial)⟩⟩ rfl rfl hl.1 rfl (lv_room (Nat.le_of_ble_eq_true rfl)) dX11_heapOfKind_96 ⟨Nat.le_of_ble_eq_true rfl, Nat.le_of_ble_eq_true rfl⟩) hS (fun q _ h => hFc q h) hFc (fun u tC H1 locs htC hvm hw_3 hB hz1 hk1 hS => ?_)
  obtain ⟨⟩ := u
  try dsimp only at hw_3 hB
  obtain ⟨hP1, hK1, hD1⟩ := hB
  rw [htC] at hP1
  have hK1 := va_K.moved hvm.symm hK1
  obtain ⟨hP, hD⟩ := va_join (wr := []) (w1 := [(zo11iiii q_1 5 (nI n) x y)]) hP hD [0] [] rfl rfl (by decide) (by decide) hk1 hFc hP1 hD1
  have hK := (hK.sub (tys' := []) [] rfl).app hK1
  generalize H1 = H at hP hS ⊢
  have hP : va_P (dC, dI) vwCl [(zo11iiii q_1 5 (nI n) x y)] H := hP
  have hD : va_D A [(zo11iiii q_1 5 (nI n) x y)] := hD
  have hK : va_K (dC, dI) vwCl [] s := hK
  rw [hQ]
  have hP9 := hP.sub (ws' := [(zo11iiii q_1 5 (nI n) x y)]) [0] rfl
  have hD9 := hD.sub (ws' := [(zo11iiii q_1 5 (nI n) x y)]) [0] (by decide) rfl
  have hK9 := hK.sub (tys' := []) [] rfl
  exact W.aret (v := .ref q_1) hx hb hr (Or.inl ⟨_, rfl⟩) (Or.inr ⟨_, rfl⟩) (fun tQ htQ hWQ => ⟨⟨some q_1, q_1, rfl, rfl, by rw [htQ]; exact hP9, va_K.moved hWQ.alike hK9, hD9⟩, hS.F htQ⟩) hS.2.2 dX11_heapOfKind_99

theorem kc_hok6_0 : ∀ w ∈ wsX70, w ∈ wsX11_heapOfKind := fun w h => List.mem_cons_of_mem _ (gin_wsX70 w h)
theorem kc_hok6_1 : (.classLink RX11 293 RX7 : Cond) ∈ wsX11_heapOfKind := kc_of 612 rfl rfl rfl
theorem kc_hok6_2 : (.instantiable RX7 4 : Cond) ∈ wsX11_heapOfKind := kc_of 613 rfl rfl rfl
theorem kc_hok6_3 : (.initialized RX7 : Cond) ∈ wsX11_heapOfKind := kc_of 86 rfl rfl rfl
theorem kc_hok6_4 : (.methodLink RX11 295 yX7_init : Cond) ∈ wsX11_heapOfKind := kc_of 614 rfl rfl rfl
theorem kc_hok6_5 : (.instanceMethod yX7_init : Cond) ∈ wsX11_heapOfKind := kc_of 615 rfl rfl rfl
set_option maxHeartbeats 4000000 in
set_option maxRecDepth 100000 in
theorem c_hok6 (l : Launch) (dC : Nat → ClassId) (dI : Nat → Nat → Nat) (n : Nat) (x y : Int32) (sz : Nat) : Met l yX11_heapOfKind wsX11_heapOfKind ({ frames := 4, cells := 1, slots := 4, locals := 84 } : Room) (va_Pc [.int 6, .int (nI n), .int x, .int y] (fun U => U.heap.size = sz ∧ va_P (dC, dI) vwCl [] U.heap ∧ va_K (dC, dI) vwCl [] U ∧ va_D (fun _ => True) [])) (va_Qq (fun (r : Option Nat) (u : Nat) => match u with | qn => r = some qn) (fun (u : Nat) (t : State) => match u with | qn => va_P (dC, dI) vwCl [(zo9iiii qn 6 (nI n) x y)] t.heap ∧ va_K (dC, dI) vwCl [] t ∧ va_D (va_A [] sz) [(zo9iiii qn 6 (nI n) x y)]) (va_A [] sz)) 1 4 (va_A [] sz) := by
  refine met_ofQ (cc := cX11_heapOfKind) (maxL := 4) (ret := (some (.object "MistHeaps$Heap"))) (by decide) rfl ?_
  intro p e s m args below meth c s₁ Q B hml hv hQ
  obtain ⟨rfl, hsz, hP, hK, hD0⟩ := hv
  have hx := B.exec
  have hb := B.bytes
  have hr := B.returns
  have hts := atoms_spec (ws := wsX11_heapOfKind) B.pre
  have hown : s.vm.findClass RX11 = some m.cls := findClass_of_methodNamed B.named
  have hlocks := B.notSynchronized
  subst hsz
  have hD := hD0.self (sz := s.heap.size)
  generalize hAe : va_A [] s.heap.size = A at hD hQ ⊢
  have hA : ∀ q : Nat, s.heap.size ≤ q → A q := fun q h => by rw [← hAe]; exact Or.inr h
  have hS : va_S A s.heap s.heap [] := va_S.rf
  have hl := lv_entry [.int 6, .int (nI n), .int x, .int y] (n := 4) (Nat.le_of_ble_eq_true rfl)
  rw [lg_entry_eq]
  generalize (lg_sl [.int 6, .int (nI n), .int x, .int y] ++ List.replicate (4 - (lg_sl [.int 6, .int (nI n), .int x, .int y]).length) Slot.unset).toArray = ls at hl ⊢
  generalize hag : ([.int 6, .int (nI n), .int x, .int y] : List Value).toArray = args at hts hQ ⊢
  have hl : lv_has ls 4 [(0, .int 6), (1, .int (nI n)), (2, .int x), (3, .int y)] := hl
  obtain ⟨H, hH⟩ : ∃ H : Heap, H = s.heap := ⟨_, rfl⟩
  rw [← hH] at hP
  rw [← hH]
  have hS : va_S A s.heap H [] := by rw [hH]; exact hS
  obtain ⟨locs, hlo⟩ : ∃ L : List Loc, L = [] := ⟨_, rfl⟩
  rw [← hlo] at hS
  rw [← hlo]
  clear hH hlo
  refine lv_iload_n hx hb dX11_heapOfKind_0 rfl (lv_at hl 0 rfl) ?_
  refine lv_tableIn (tgt := 100) hx hb dX11_heapOfKind_1 (by decide) (by decide) rfl (by decide) ?_
  refine va_new (ci := 9) (fs := [.int 0, .int 0, .int 0, .int 0]) (C := RX7) (T := TX7) (N := 4) hx hb hts kc_hok6_0 tyX7 tyX7_ok hown (hts (.classLink RX11 293 RX7) kc_hok6_1) (hts (.instantiable RX7 4) kc_hok6_2) (hts (.initialized RX7) kc_hok6_3) hK hP hD hS hA rfl (fun j hj => by rcases (show j = 0 ∨ j = 1 ∨ j = 2 ∨ j = 3 by omega) with rfl | rfl | rfl | rfl <;> rfl) (Nat.le_of_ble_eq_true rfl) (Nat.le_of_ble_eq_true rfl) dX11_heapOfKind_100 (fun q_1 H hP hD hS => ?_)
  have hP : va_P (dC, dI) vwCl [(zo9iiii q_1 0 0 0 0)] H := hP
  have hD : va_D A [(zo9iiii q_1 0 0 0 0)] := hD
  refine W.widen (k := 1) (n := 4) (by omega) (by omega) ?_
  refine lv_dup hx hb dX11_heapOfKind_103 rfl ?_
  refine lv_iload_n hx hb dX11_heapOfKind_104 rfl (lv_at hl 0 rfl) ?_
  refine lv_iload_n hx hb dX11_heapOfKind_105 rfl (lv_at hl 1 rfl) ?_
  refine lv_iload_n hx hb dX11_heapOfKind_106 rfl (lv_at hl 2 rfl) ?_
  refine lv_iload_n hx hb dX11_heapOfKind_107 rfl (lv_at hl 3 rfl) ?_
  have hPc := hP.sub (ws' := [(zo9iiii q_1 0 0 0 0)]) [0] rfl
  have hDc := hD.sub (ws' := [(zo9iiii q_1 0 0 0 0)]) [0] (by decide) rfl
  have hKc := hK.sub (tys' := []) [] rfl
  have hFc := va_free (wc := [(zo9iiii q_1 0 0 0 0)]) hD hS hA [0] rfl
  refine va_callv (va_runI (As := [.int 6, .int (nI n), .int x, .int y]) (rest := [.ref q_1]) ⟨hx, hb, hml, hown, hts⟩ (c_h7_X7 l dC dI q_1 6 (nI n) x y H.size) (cwI 4 hts ggX11_heapOfKind_X7_init rfl rfl rfl (hts (.initialized RX7) kc_hok6_3) (hts (.methodLink RX11 295 yX7_init) kc_hok6_4) (hts (.instanceMethod yX7_init) kc_hok6_5) rfl (by decide +kernel) ⟨Nat.le_of_ble_eq_true rfl, Nat.le_of_ble_eq_true rfl⟩) ⟨fun a U g mk q => by obtain ⟨q0, q1, qP, qK, qD⟩ := q; exact ⟨q0, mvz g mk a q1, mvP g mk a qP, mvK g mk a qK, qD⟩, fun U hU hW => ⟨rfl, by rw [hU], by rw [hU]; exact hPc, va_K.moved hW.alike hKc, hDc.weaken (fun _ _ _ _ => trivial)⟩⟩ rfl rfl hl.1 rfl (lv_room (Nat.le_of_ble_eq_true rfl)) dX11_heapOfKind_108 ⟨Nat.le_of_ble_eq_true rfl, Nat.le_of_ble_eq_true rfl⟩) hS (fun q _ h => hFc q h) hFc (fun u tC H1 locs htC hvm hw_3 hB hz1 hk1 hS => ?_)
  obtain ⟨⟩ := u
  try dsimp only at hw_3 hB
  obtain ⟨hP1, hK1, hD1⟩ := hB
  rw [htC] at hP1
  have hK1 := va_K.moved hvm.symm hK1
  obtain ⟨hP, hD⟩ := va_join (wr := []) (w1 := [(zo9iiii q_1 6 (nI n) x y)]) hP hD [0] [] rfl rfl (by decide) (by decide) hk1 hFc hP1 hD1
  have hK := (hK.sub (tys' := []) [] rfl).app hK1
  generalize H1 = H at hP hS ⊢
  have hP : va_P (dC, dI) vwCl [(zo9iiii q_1 6 (nI n) x y)] H := hP
  have hD : va_D A [(zo9iiii q_1 6 (nI n) x y)] := hD
  have hK : va_K (dC, dI) vwCl [] s := hK
  rw [hQ]
  have hP9 := hP.sub (ws' := [(zo9iiii q_1 6 (nI n) x y)]) [0] rfl
  have hD9 := hD.sub (ws' := [(zo9iiii q_1 6 (nI n) x y)]) [0] (by decide) rfl
  have hK9 := hK.sub (tys' := []) [] rfl
  exact W.aret (v := .ref q_1) hx hb hr (Or.inl ⟨_, rfl⟩) (Or.inr ⟨_, rfl⟩) (fun tQ htQ hWQ => ⟨⟨some q_1, q_1, rfl, rfl, by rw [htQ]; exact hP9, va_K.moved hWQ.alike hK9, hD9⟩, hS.F htQ⟩) hS.2.2 dX11_heapOfKind_111
end mg16b
