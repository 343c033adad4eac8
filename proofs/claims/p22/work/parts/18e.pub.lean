theorem ggX11_line_X8_heapAt : GoodIn wsX11_line wsX8_heapAt := gga_of 632 rfl rfl rfl
theorem gX11_line_X8_heapAt : GoodIn wsX11_line (wsV RX11 112 RX8 yX8_heapAt wsX8_heapAt) := goodIn_app (ggh_of [629, 630, 631, 64] rfl rfl rfl) ggX11_line_X8_heapAt
theorem ggX11_line_X11_apart : GoodIn wsX11_line wsX11_apart := gga_of 700 rfl rfl rfl
theorem gX11_line_X11_apart : GoodIn wsX11_line (va_wsS RX11 209 yX11_apart wsX11_apart) := goodIn_app (ggh_of [897, 699, 63] rfl rfl rfl) ggX11_line_X11_apart
theorem ggX11_next_X8_heapAt : GoodIn wsX11_next wsX8_heapAt := gga_of 632 rfl rfl rfl
theorem gX11_next_X8_heapAt : GoodIn wsX11_next (wsV RX11 112 RX8 yX8_heapAt wsX8_heapAt) := goodIn_app (ggh_of [629, 630, 631, 64] rfl rfl rfl) ggX11_next_X8_heapAt
theorem ggX11_next_X11_rowOf : GoodIn wsX11_next wsX11_rowOf := gga_of 643 rfl rfl rfl
theorem gX11_next_X11_rowOf : GoodIn wsX11_next (va_wsS RX11 212 yX11_rowOf wsX11_rowOf) := goodIn_app (ggh_of [701, 642, 63] rfl rfl rfl) ggX11_next_X11_rowOf
theorem ggX11_next_X11_columnOf : GoodIn wsX11_next wsX11_columnOf := gga_of 646 rfl rfl rfl
theorem gX11_next_X11_columnOf : GoodIn wsX11_next (va_wsS RX11 215 yX11_columnOf wsX11_columnOf) := goodIn_app (ggh_of [705, 645, 63] rfl rfl rfl) ggX11_next_X11_columnOf
theorem ggX11_next_X11_isOnHill : GoodIn wsX11_next wsX11_isOnHill := gga_of 850 rfl rfl rfl
theorem gX11_next_X11_isOnHill : GoodIn wsX11_next (va_wsS RX11 218 yX11_isOnHill wsX11_isOnHill) := goodIn_app (ggh_of [848, 849, 63] rfl rfl rfl) ggX11_next_X11_isOnHill
theorem ggX11_as_X8_heapAt : GoodIn wsX11_as wsX8_heapAt := gga_of 632 rfl rfl rfl
theorem gX11_as_X8_heapAt : GoodIn wsX11_as (wsV RX11 112 RX8 yX8_heapAt wsX8_heapAt) := goodIn_app (ggh_of [629, 630, 631, 64] rfl rfl rfl) ggX11_as_X8_heapAt
theorem ggX11_as_X3_isOfKind : GoodIn wsX11_as wsX3_isOfKind := gga_of 1115 rfl rfl rfl
theorem gX11_as_X3_isOfKind_u256X1 : GoodIn wsX11_as (va_wsU RX11 256 RX1 "MistHeaps$Heap" ⟨"MistHeaps$Heap", "isOfKind", "(I)Z"⟩ yX3_isOfKind wsX3_isOfKind) := goodIn_app (ggh_of [1105, 1108, 1109, 1106, 67] rfl rfl rfl) ggX11_as_X3_isOfKind
theorem gX11_as_X3_isOfKind : GoodIn wsX11_as (wsV RX11 256 RX3 yX3_isOfKind wsX3_isOfKind) := goodIn_app (ggh_of [1105, 1106, 1107, 67] rfl rfl rfl) ggX11_as_X3_isOfKind
theorem gX11_as_X3_isOfKind_u256X4 : GoodIn wsX11_as (va_wsU RX11 256 RX4 "MistHeaps$Heap" ⟨"MistHeaps$Heap", "isOfKind", "(I)Z"⟩ yX3_isOfKind wsX3_isOfKind) := goodIn_app (ggh_of [1105, 1108, 1110, 1106, 67] rfl rfl rfl) ggX11_as_X3_isOfKind
theorem gX11_as_X3_isOfKind_u256X6 : GoodIn wsX11_as (va_wsU RX11 256 RX6 "MistHeaps$Heap" ⟨"MistHeaps$Heap", "isOfKind", "(I)Z"⟩ yX3_isOfKind wsX3_isOfKind) := goodIn_app (ggh_of [1105, 1108, 1111, 1106, 67] rfl rfl rfl) ggX11_as_X3_isOfKind
theorem gX11_as_X3_isOfKind_u256X7 : GoodIn wsX11_as (va_wsU RX11 256 RX7 "MistHeaps$Heap" ⟨"MistHeaps$Heap", "isOfKind", "(I)Z"⟩ yX3_isOfKind wsX3_isOfKind) := goodIn_app (ggh_of [1105, 1108, 1112, 1106, 67] rfl rfl rfl) ggX11_as_X3_isOfKind
theorem gX11_as_X3_isOfKind_u256X9 : GoodIn wsX11_as (va_wsU RX11 256 RX9 "MistHeaps$Heap" ⟨"MistHeaps$Heap", "isOfKind", "(I)Z"⟩ yX3_isOfKind wsX3_isOfKind) := goodIn_app (ggh_of [1105, 1108, 1113, 1106, 67] rfl rfl rfl) ggX11_as_X3_isOfKind
theorem gX11_as_X3_isOfKind_u256X10 : GoodIn wsX11_as (va_wsU RX11 256 RX10 "MistHeaps$Heap" ⟨"MistHeaps$Heap", "isOfKind", "(I)Z"⟩ yX3_isOfKind wsX3_isOfKind) := goodIn_app (ggh_of [1105, 1108, 1114, 1106, 67] rfl rfl rfl) ggX11_as_X3_isOfKind
theorem ggX11_image_X8_copyFrom : GoodIn wsX11_image wsX8_copyFrom := gga_of 1125 rfl rfl rfl
theorem gX11_image_X8_copyFrom : GoodIn wsX11_image (wsV RX11 259 RX8 yX8_copyFrom wsX8_copyFrom) := goodIn_app (ggh_of [1122, 1123, 1124, 64] rfl rfl rfl) ggX11_image_X8_copyFrom
theorem ggX11_undo_X8_copyFrom : GoodIn wsX11_undo wsX8_copyFrom := gga_of 1125 rfl rfl rfl
theorem gX11_undo_X8_copyFrom : GoodIn wsX11_undo (wsV RX11 259 RX8 yX8_copyFrom wsX8_copyFrom) := goodIn_app (ggh_of [1122, 1123, 1124, 64] rfl rfl rfl) ggX11_undo_X8_copyFrom
noncomputable def dk18epub_cX11_line_0 : List (Nat × Instr × Nat) := [(0, .aload_n 0, 1), (1, .getfield 14, 3), (4, .iload_n 1, 1), (5, .invokevirtual 112, 3), (8, .astore_n 3, 1), (9, .aload_n 3, 1), (10, .ifnonnull 5, 3), (15, .iload_n 2, 1), (16, .iconst 1, 1), (17, .if_icmp .lt 9, 3), (26, .bipush (-2), 2), (28, .ireturn, 1), (20, .iload_n 2, 1), (21, .bipush 9, 2), (23, .if_icmp .le 6, 3), (29, .iload_n 2, 1), (30, .iconst 1, 1), (31, .isub, 1), (32, .iconst 0, 1), (33, .aload_n 0, 1), (34, .getfield 14, 3), (37, .getfield 68, 3), (40, .getfield 91, 3), (43, .aload_n 0, 1), (44, .getfield 14, 3), (47, .getfield 85, 3), (50, .isub, 1), (51, .invokestatic 204, 3), (54, .imul, 1), (55, .istore 4, 2), (57, .iconst 0, 1), (58, .istore 5, 2), (60, .iconst 0, 1), (61, .istore 6, 2), (63, .iload 6, 2), (65, .aload_n 0, 1), (66, .getfield 14, 3), (69, .getfield 101, 3), (72, .if_icmp .ge 49, 3), (121, .iload 5, 2)]
set_option maxRecDepth 100000 in
theorem dk18epub_cX11_line_0_a : dkA cX11_line dk18epub_cX11_line_0 = true := by decide +kernel
theorem dX11_line_0 : decode cX11_line 0 = .ok (.aload_n 0, 1) := dkAt dk18epub_cX11_line_0_a 0 rfl
theorem dX11_line_1 : decode cX11_line 1 = .ok (.getfield 14, 3) := dkAt dk18epub_cX11_line_0_a 1 rfl
theorem dX11_line_4 : decode cX11_line 4 = .ok (.iload_n 1, 1) := dkAt dk18epub_cX11_line_0_a 2 rfl
theorem dX11_line_5 : decode cX11_line 5 = .ok (.invokevirtual 112, 3) := dkAt dk18epub_cX11_line_0_a 3 rfl
theorem dX11_line_8 : decode cX11_line 8 = .ok (.astore_n 3, 1) := dkAt dk18epub_cX11_line_0_a 4 rfl
theorem dX11_line_9 : decode cX11_line 9 = .ok (.aload_n 3, 1) := dkAt dk18epub_cX11_line_0_a 5 rfl
theorem dX11_line_10 : decode cX11_line 10 = .ok (.ifnonnull 5, 3) := dkAt dk18epub_cX11_line_0_a 6 rfl
theorem dX11_line_15 : decode cX11_line 15 = .ok (.iload_n 2, 1) := dkAt dk18epub_cX11_line_0_a 7 rfl
theorem dX11_line_16 : decode cX11_line 16 = .ok (.iconst 1, 1) := dkAt dk18epub_cX11_line_0_a 8 rfl
theorem dX11_line_17 : decode cX11_line 17 = .ok (.if_icmp .lt 9, 3) := dkAt dk18epub_cX11_line_0_a 9 rfl
theorem dX11_line_26 : decode cX11_line 26 = .ok (.bipush (-2), 2) := dkAt dk18epub_cX11_line_0_a 10 rfl
theorem dX11_line_28 : decode cX11_line 28 = .ok (.ireturn, 1) := dkAt dk18epub_cX11_line_0_a 11 rfl
theorem dX11_line_20 : decode cX11_line 20 = .ok (.iload_n 2, 1) := dkAt dk18epub_cX11_line_0_a 12 rfl
theorem dX11_line_21 : decode cX11_line 21 = .ok (.bipush 9, 2) := dkAt dk18epub_cX11_line_0_a 13 rfl
theorem dX11_line_23 : decode cX11_line 23 = .ok (.if_icmp .le 6, 3) := dkAt dk18epub_cX11_line_0_a 14 rfl
theorem dX11_line_29 : decode cX11_line 29 = .ok (.iload_n 2, 1) := dkAt dk18epub_cX11_line_0_a 15 rfl
theorem dX11_line_30 : decode cX11_line 30 = .ok (.iconst 1, 1) := dkAt dk18epub_cX11_line_0_a 16 rfl
theorem dX11_line_31 : decode cX11_line 31 = .ok (.isub, 1) := dkAt dk18epub_cX11_line_0_a 17 rfl
theorem dX11_line_32 : decode cX11_line 32 = .ok (.iconst 0, 1) := dkAt dk18epub_cX11_line_0_a 18 rfl
theorem dX11_line_33 : decode cX11_line 33 = .ok (.aload_n 0, 1) := dkAt dk18epub_cX11_line_0_a 19 rfl
theorem dX11_line_34 : decode cX11_line 34 = .ok (.getfield 14, 3) := dkAt dk18epub_cX11_line_0_a 20 rfl
theorem dX11_line_37 : decode cX11_line 37 = .ok (.getfield 68, 3) := dkAt dk18epub_cX11_line_0_a 21 rfl
theorem dX11_line_40 : decode cX11_line 40 = .ok (.getfield 91, 3) := dkAt dk18epub_cX11_line_0_a 22 rfl
theorem dX11_line_43 : decode cX11_line 43 = .ok (.aload_n 0, 1) := dkAt dk18epub_cX11_line_0_a 23 rfl
theorem dX11_line_44 : decode cX11_line 44 = .ok (.getfield 14, 3) := dkAt dk18epub_cX11_line_0_a 24 rfl
theorem dX11_line_47 : decode cX11_line 47 = .ok (.getfield 85, 3) := dkAt dk18epub_cX11_line_0_a 25 rfl
theorem dX11_line_50 : decode cX11_line 50 = .ok (.isub, 1) := dkAt dk18epub_cX11_line_0_a 26 rfl
theorem dX11_line_51 : decode cX11_line 51 = .ok (.invokestatic 204, 3) := dkAt dk18epub_cX11_line_0_a 27 rfl
theorem dX11_line_54 : decode cX11_line 54 = .ok (.imul, 1) := dkAt dk18epub_cX11_line_0_a 28 rfl
theorem dX11_line_55 : decode cX11_line 55 = .ok (.istore 4, 2) := dkAt dk18epub_cX11_line_0_a 29 rfl
theorem dX11_line_57 : decode cX11_line 57 = .ok (.iconst 0, 1) := dkAt dk18epub_cX11_line_0_a 30 rfl
theorem dX11_line_58 : decode cX11_line 58 = .ok (.istore 5, 2) := dkAt dk18epub_cX11_line_0_a 31 rfl
theorem dX11_line_60 : decode cX11_line 60 = .ok (.iconst 0, 1) := dkAt dk18epub_cX11_line_0_a 32 rfl
theorem dX11_line_61 : decode cX11_line 61 = .ok (.istore 6, 2) := dkAt dk18epub_cX11_line_0_a 33 rfl
theorem dX11_line_63 : decode cX11_line 63 = .ok (.iload 6, 2) := dkAt dk18epub_cX11_line_0_a 34 rfl
theorem dX11_line_65 : decode cX11_line 65 = .ok (.aload_n 0, 1) := dkAt dk18epub_cX11_line_0_a 35 rfl
theorem dX11_line_66 : decode cX11_line 66 = .ok (.getfield 14, 3) := dkAt dk18epub_cX11_line_0_a 36 rfl
theorem dX11_line_69 : decode cX11_line 69 = .ok (.getfield 101, 3) := dkAt dk18epub_cX11_line_0_a 37 rfl
theorem dX11_line_72 : decode cX11_line 72 = .ok (.if_icmp .ge 49, 3) := dkAt dk18epub_cX11_line_0_a 38 rfl
theorem dX11_line_121 : decode cX11_line 121 = .ok (.iload 5, 2) := dkAt dk18epub_cX11_line_0_a 39 rfl
noncomputable def dk18epub_cX11_line_40 : List (Nat × Instr × Nat) := [(123, .ireturn, 1), (75, .iload 6, 2), (77, .iload_n 1, 1), (78, .if_icmp .eq 37, 3), (115, .iinc 6 1, 3), (118, .goto (-55), 3), (81, .aload_n 3, 1), (82, .getfield 124, 3), (85, .aload_n 0, 1), (86, .getfield 14, 3), (89, .getfield 104, 3), (92, .iload 6, 2), (94, .aaload, 1), (95, .getfield 124, 3), (98, .invokestatic 209, 3), (101, .iload 4, 2), (103, .if_icmp .gt 12, 3), (106, .iload 5, 2), (108, .iconst 1, 1), (109, .iload 6, 2), (111, .ishl, 1), (112, .ior, 1), (113, .istore 5, 2), (13, .iconst (-1), 1), (14, .ireturn, 1)]
set_option maxRecDepth 100000 in
theorem dk18epub_cX11_line_40_a : dkA cX11_line dk18epub_cX11_line_40 = true := by decide +kernel
theorem dX11_line_123 : decode cX11_line 123 = .ok (.ireturn, 1) := dkAt dk18epub_cX11_line_40_a 0 rfl
theorem dX11_line_75 : decode cX11_line 75 = .ok (.iload 6, 2) := dkAt dk18epub_cX11_line_40_a 1 rfl
theorem dX11_line_77 : decode cX11_line 77 = .ok (.iload_n 1, 1) := dkAt dk18epub_cX11_line_40_a 2 rfl
theorem dX11_line_78 : decode cX11_line 78 = .ok (.if_icmp .eq 37, 3) := dkAt dk18epub_cX11_line_40_a 3 rfl
theorem dX11_line_115 : decode cX11_line 115 = .ok (.iinc 6 1, 3) := dkAt dk18epub_cX11_line_40_a 4 rfl
theorem dX11_line_118 : decode cX11_line 118 = .ok (.goto (-55), 3) := dkAt dk18epub_cX11_line_40_a 5 rfl
theorem dX11_line_81 : decode cX11_line 81 = .ok (.aload_n 3, 1) := dkAt dk18epub_cX11_line_40_a 6 rfl
theorem dX11_line_82 : decode cX11_line 82 = .ok (.getfield 124, 3) := dkAt dk18epub_cX11_line_40_a 7 rfl
theorem dX11_line_85 : decode cX11_line 85 = .ok (.aload_n 0, 1) := dkAt dk18epub_cX11_line_40_a 8 rfl
theorem dX11_line_86 : decode cX11_line 86 = .ok (.getfield 14, 3) := dkAt dk18epub_cX11_line_40_a 9 rfl
theorem dX11_line_89 : decode cX11_line 89 = .ok (.getfield 104, 3) := dkAt dk18epub_cX11_line_40_a 10 rfl
theorem dX11_line_92 : decode cX11_line 92 = .ok (.iload 6, 2) := dkAt dk18epub_cX11_line_40_a 11 rfl
theorem dX11_line_94 : decode cX11_line 94 = .ok (.aaload, 1) := dkAt dk18epub_cX11_line_40_a 12 rfl
theorem dX11_line_95 : decode cX11_line 95 = .ok (.getfield 124, 3) := dkAt dk18epub_cX11_line_40_a 13 rfl
theorem dX11_line_98 : decode cX11_line 98 = .ok (.invokestatic 209, 3) := dkAt dk18epub_cX11_line_40_a 14 rfl
theorem dX11_line_101 : decode cX11_line 101 = .ok (.iload 4, 2) := dkAt dk18epub_cX11_line_40_a 15 rfl
theorem dX11_line_103 : decode cX11_line 103 = .ok (.if_icmp .gt 12, 3) := dkAt dk18epub_cX11_line_40_a 16 rfl
theorem dX11_line_106 : decode cX11_line 106 = .ok (.iload 5, 2) := dkAt dk18epub_cX11_line_40_a 17 rfl
theorem dX11_line_108 : decode cX11_line 108 = .ok (.iconst 1, 1) := dkAt dk18epub_cX11_line_40_a 18 rfl
theorem dX11_line_109 : decode cX11_line 109 = .ok (.iload 6, 2) := dkAt dk18epub_cX11_line_40_a 19 rfl
theorem dX11_line_111 : decode cX11_line 111 = .ok (.ishl, 1) := dkAt dk18epub_cX11_line_40_a 20 rfl
theorem dX11_line_112 : decode cX11_line 112 = .ok (.ior, 1) := dkAt dk18epub_cX11_line_40_a 21 rfl
theorem dX11_line_113 : decode cX11_line 113 = .ok (.istore 5, 2) := dkAt dk18epub_cX11_line_40_a 22 rfl
theorem dX11_line_13 : decode cX11_line 13 = .ok (.iconst (-1), 1) := dkAt dk18epub_cX11_line_40_a 23 rfl
theorem dX11_line_14 : decode cX11_line 14 = .ok (.ireturn, 1) := dkAt dk18epub_cX11_line_40_a 24 rfl
noncomputable def dk18epub_cX11_next_0 : List (Nat × Instr × Nat) := [(0, .aload_n 0, 1), (1, .getfield 14, 3), (4, .iload_n 1, 1), (5, .invokevirtual 112, 3), (8, .astore 4, 2), (10, .aload_n 0, 1), (11, .getfield 14, 3), (14, .iload_n 2, 1), (15, .invokevirtual 112, 3), (18, .astore 5, 2), (20, .aload_n 0, 1), (21, .getfield 14, 3), (24, .iload_n 3, 1), (25, .invokevirtual 112, 3), (28, .astore 6, 2), (30, .aload 4, 2), (32, .ifnull 13, 3), (35, .aload 5, 2), (37, .ifnull 8, 3), (40, .aload 6, 2), (42, .ifnonnull 5, 3), (47, .iconst 3, 1), (48, .aload 6, 2), (50, .getfield 124, 3), (53, .invokestatic 212, 3), (56, .imul, 1), (57, .iconst 3, 1), (58, .aload 5, 2), (60, .getfield 124, 3), (63, .invokestatic 212, 3), (66, .imul, 1), (67, .isub, 1), (68, .aload 4, 2), (70, .getfield 124, 3), (73, .invokestatic 212, 3), (76, .iadd, 1), (77, .istore 7, 2), (79, .iconst 3, 1), (80, .aload 6, 2), (82, .getfield 124, 3)]
set_option maxRecDepth 100000 in
theorem dk18epub_cX11_next_0_a : dkA cX11_next dk18epub_cX11_next_0 = true := by decide +kernel
theorem dX11_next_0 : decode cX11_next 0 = .ok (.aload_n 0, 1) := dkAt dk18epub_cX11_next_0_a 0 rfl
theorem dX11_next_1 : decode cX11_next 1 = .ok (.getfield 14, 3) := dkAt dk18epub_cX11_next_0_a 1 rfl
theorem dX11_next_4 : decode cX11_next 4 = .ok (.iload_n 1, 1) := dkAt dk18epub_cX11_next_0_a 2 rfl
theorem dX11_next_5 : decode cX11_next 5 = .ok (.invokevirtual 112, 3) := dkAt dk18epub_cX11_next_0_a 3 rfl
theorem dX11_next_8 : decode cX11_next 8 = .ok (.astore 4, 2) := dkAt dk18epub_cX11_next_0_a 4 rfl
theorem dX11_next_10 : decode cX11_next 10 = .ok (.aload_n 0, 1) := dkAt dk18epub_cX11_next_0_a 5 rfl
theorem dX11_next_11 : decode cX11_next 11 = .ok (.getfield 14, 3) := dkAt dk18epub_cX11_next_0_a 6 rfl
theorem dX11_next_14 : decode cX11_next 14 = .ok (.iload_n 2, 1) := dkAt dk18epub_cX11_next_0_a 7 rfl
theorem dX11_next_15 : decode cX11_next 15 = .ok (.invokevirtual 112, 3) := dkAt dk18epub_cX11_next_0_a 8 rfl
theorem dX11_next_18 : decode cX11_next 18 = .ok (.astore 5, 2) := dkAt dk18epub_cX11_next_0_a 9 rfl
theorem dX11_next_20 : decode cX11_next 20 = .ok (.aload_n 0, 1) := dkAt dk18epub_cX11_next_0_a 10 rfl
theorem dX11_next_21 : decode cX11_next 21 = .ok (.getfield 14, 3) := dkAt dk18epub_cX11_next_0_a 11 rfl
theorem dX11_next_24 : decode cX11_next 24 = .ok (.iload_n 3, 1) := dkAt dk18epub_cX11_next_0_a 12 rfl
theorem dX11_next_25 : decode cX11_next 25 = .ok (.invokevirtual 112, 3) := dkAt dk18epub_cX11_next_0_a 13 rfl
theorem dX11_next_28 : decode cX11_next 28 = .ok (.astore 6, 2) := dkAt dk18epub_cX11_next_0_a 14 rfl
theorem dX11_next_30 : decode cX11_next 30 = .ok (.aload 4, 2) := dkAt dk18epub_cX11_next_0_a 15 rfl
theorem dX11_next_32 : decode cX11_next 32 = .ok (.ifnull 13, 3) := dkAt dk18epub_cX11_next_0_a 16 rfl
theorem dX11_next_35 : decode cX11_next 35 = .ok (.aload 5, 2) := dkAt dk18epub_cX11_next_0_a 17 rfl
theorem dX11_next_37 : decode cX11_next 37 = .ok (.ifnull 8, 3) := dkAt dk18epub_cX11_next_0_a 18 rfl
theorem dX11_next_40 : decode cX11_next 40 = .ok (.aload 6, 2) := dkAt dk18epub_cX11_next_0_a 19 rfl
theorem dX11_next_42 : decode cX11_next 42 = .ok (.ifnonnull 5, 3) := dkAt dk18epub_cX11_next_0_a 20 rfl
theorem dX11_next_47 : decode cX11_next 47 = .ok (.iconst 3, 1) := dkAt dk18epub_cX11_next_0_a 21 rfl
theorem dX11_next_48 : decode cX11_next 48 = .ok (.aload 6, 2) := dkAt dk18epub_cX11_next_0_a 22 rfl
theorem dX11_next_50 : decode cX11_next 50 = .ok (.getfield 124, 3) := dkAt dk18epub_cX11_next_0_a 23 rfl
theorem dX11_next_53 : decode cX11_next 53 = .ok (.invokestatic 212, 3) := dkAt dk18epub_cX11_next_0_a 24 rfl
theorem dX11_next_56 : decode cX11_next 56 = .ok (.imul, 1) := dkAt dk18epub_cX11_next_0_a 25 rfl
theorem dX11_next_57 : decode cX11_next 57 = .ok (.iconst 3, 1) := dkAt dk18epub_cX11_next_0_a 26 rfl
theorem dX11_next_58 : decode cX11_next 58 = .ok (.aload 5, 2) := dkAt dk18epub_cX11_next_0_a 27 rfl
theorem dX11_next_60 : decode cX11_next 60 = .ok (.getfield 124, 3) := dkAt dk18epub_cX11_next_0_a 28 rfl
theorem dX11_next_63 : decode cX11_next 63 = .ok (.invokestatic 212, 3) := dkAt dk18epub_cX11_next_0_a 29 rfl
theorem dX11_next_66 : decode cX11_next 66 = .ok (.imul, 1) := dkAt dk18epub_cX11_next_0_a 30 rfl
theorem dX11_next_67 : decode cX11_next 67 = .ok (.isub, 1) := dkAt dk18epub_cX11_next_0_a 31 rfl
theorem dX11_next_68 : decode cX11_next 68 = .ok (.aload 4, 2) := dkAt dk18epub_cX11_next_0_a 32 rfl
theorem dX11_next_70 : decode cX11_next 70 = .ok (.getfield 124, 3) := dkAt dk18epub_cX11_next_0_a 33 rfl
theorem dX11_next_73 : decode cX11_next 73 = .ok (.invokestatic 212, 3) := dkAt dk18epub_cX11_next_0_a 34 rfl
theorem dX11_next_76 : decode cX11_next 76 = .ok (.iadd, 1) := dkAt dk18epub_cX11_next_0_a 35 rfl
theorem dX11_next_77 : decode cX11_next 77 = .ok (.istore 7, 2) := dkAt dk18epub_cX11_next_0_a 36 rfl
theorem dX11_next_79 : decode cX11_next 79 = .ok (.iconst 3, 1) := dkAt dk18epub_cX11_next_0_a 37 rfl
theorem dX11_next_80 : decode cX11_next 80 = .ok (.aload 6, 2) := dkAt dk18epub_cX11_next_0_a 38 rfl
theorem dX11_next_82 : decode cX11_next 82 = .ok (.getfield 124, 3) := dkAt dk18epub_cX11_next_0_a 39 rfl
noncomputable def dk18epub_cX11_next_40 : List (Nat × Instr × Nat) := [(85, .invokestatic 215, 3), (88, .imul, 1), (89, .iconst 3, 1), (90, .aload 5, 2), (92, .getfield 124, 3), (95, .invokestatic 215, 3), (98, .imul, 1), (99, .isub, 1), (100, .aload 4, 2), (102, .getfield 124, 3), (105, .invokestatic 215, 3), (108, .iadd, 1), (109, .istore 8, 2), (111, .iload 7, 2), (113, .iload 8, 2), (115, .invokestatic 218, 3), (118, .ifCond .eq 14, 3), (121, .iload 7, 2), (123, .bipush 6, 2), (125, .imul, 1), (126, .iload 8, 2), (128, .iadd, 1), (129, .goto 5, 3), (134, .ireturn, 1), (132, .bipush (-5), 2), (45, .iconst (-1), 1), (46, .ireturn, 1)]
set_option maxRecDepth 100000 in
theorem dk18epub_cX11_next_40_a : dkA cX11_next dk18epub_cX11_next_40 = true := by decide +kernel
theorem dX11_next_85 : decode cX11_next 85 = .ok (.invokestatic 215, 3) := dkAt dk18epub_cX11_next_40_a 0 rfl
theorem dX11_next_88 : decode cX11_next 88 = .ok (.imul, 1) := dkAt dk18epub_cX11_next_40_a 1 rfl
theorem dX11_next_89 : decode cX11_next 89 = .ok (.iconst 3, 1) := dkAt dk18epub_cX11_next_40_a 2 rfl
theorem dX11_next_90 : decode cX11_next 90 = .ok (.aload 5, 2) := dkAt dk18epub_cX11_next_40_a 3 rfl
theorem dX11_next_92 : decode cX11_next 92 = .ok (.getfield 124, 3) := dkAt dk18epub_cX11_next_40_a 4 rfl
theorem dX11_next_95 : decode cX11_next 95 = .ok (.invokestatic 215, 3) := dkAt dk18epub_cX11_next_40_a 5 rfl
theorem dX11_next_98 : decode cX11_next 98 = .ok (.imul, 1) := dkAt dk18epub_cX11_next_40_a 6 rfl
theorem dX11_next_99 : decode cX11_next 99 = .ok (.isub, 1) := dkAt dk18epub_cX11_next_40_a 7 rfl
theorem dX11_next_100 : decode cX11_next 100 = .ok (.aload 4, 2) := dkAt dk18epub_cX11_next_40_a 8 rfl
theorem dX11_next_102 : decode cX11_next 102 = .ok (.getfield 124, 3) := dkAt dk18epub_cX11_next_40_a 9 rfl
theorem dX11_next_105 : decode cX11_next 105 = .ok (.invokestatic 215, 3) := dkAt dk18epub_cX11_next_40_a 10 rfl
theorem dX11_next_108 : decode cX11_next 108 = .ok (.iadd, 1) := dkAt dk18epub_cX11_next_40_a 11 rfl
theorem dX11_next_109 : decode cX11_next 109 = .ok (.istore 8, 2) := dkAt dk18epub_cX11_next_40_a 12 rfl
theorem dX11_next_111 : decode cX11_next 111 = .ok (.iload 7, 2) := dkAt dk18epub_cX11_next_40_a 13 rfl
theorem dX11_next_113 : decode cX11_next 113 = .ok (.iload 8, 2) := dkAt dk18epub_cX11_next_40_a 14 rfl
theorem dX11_next_115 : decode cX11_next 115 = .ok (.invokestatic 218, 3) := dkAt dk18epub_cX11_next_40_a 15 rfl
theorem dX11_next_118 : decode cX11_next 118 = .ok (.ifCond .eq 14, 3) := dkAt dk18epub_cX11_next_40_a 16 rfl
theorem dX11_next_121 : decode cX11_next 121 = .ok (.iload 7, 2) := dkAt dk18epub_cX11_next_40_a 17 rfl
theorem dX11_next_123 : decode cX11_next 123 = .ok (.bipush 6, 2) := dkAt dk18epub_cX11_next_40_a 18 rfl
theorem dX11_next_125 : decode cX11_next 125 = .ok (.imul, 1) := dkAt dk18epub_cX11_next_40_a 19 rfl
theorem dX11_next_126 : decode cX11_next 126 = .ok (.iload 8, 2) := dkAt dk18epub_cX11_next_40_a 20 rfl
theorem dX11_next_128 : decode cX11_next 128 = .ok (.iadd, 1) := dkAt dk18epub_cX11_next_40_a 21 rfl
theorem dX11_next_129 : decode cX11_next 129 = .ok (.goto 5, 3) := dkAt dk18epub_cX11_next_40_a 22 rfl
theorem dX11_next_134 : decode cX11_next 134 = .ok (.ireturn, 1) := dkAt dk18epub_cX11_next_40_a 23 rfl
theorem dX11_next_132 : decode cX11_next 132 = .ok (.bipush (-5), 2) := dkAt dk18epub_cX11_next_40_a 24 rfl
theorem dX11_next_45 : decode cX11_next 45 = .ok (.iconst (-1), 1) := dkAt dk18epub_cX11_next_40_a 25 rfl
theorem dX11_next_46 : decode cX11_next 46 = .ok (.ireturn, 1) := dkAt dk18epub_cX11_next_40_a 26 rfl
noncomputable def dk18epub_cX3_isOfKind_0 : List (Nat × Instr × Nat) := [(0, .aload_n 0, 1), (1, .getfield 9, 3), (4, .istore_n 2, 1), (5, .iconst 0, 1), (6, .istore_n 3, 1), (7, .iload_n 3, 1), (8, .bipush 7, 2), (10, .if_icmp .ge 26, 3), (13, .iload_n 2, 1), (14, .ifCond .lt 22, 3), (17, .iload_n 2, 1), (18, .iload_n 1, 1), (19, .if_icmp .ne 5, 3), (24, .getstatic 24, 3), (27, .iload_n 2, 1), (28, .iaload, 1), (29, .istore_n 2, 1), (30, .iinc 3 1, 3), (33, .goto (-26), 3), (36, .iconst 0, 1), (37, .ireturn, 1), (22, .iconst 1, 1), (23, .ireturn, 1)]
set_option maxRecDepth 100000 in
theorem dk18epub_cX3_isOfKind_0_a : dkA cX3_isOfKind dk18epub_cX3_isOfKind_0 = true := by decide +kernel
theorem dX3_isOfKind_0 : decode cX3_isOfKind 0 = .ok (.aload_n 0, 1) := dkAt dk18epub_cX3_isOfKind_0_a 0 rfl
theorem dX3_isOfKind_1 : decode cX3_isOfKind 1 = .ok (.getfield 9, 3) := dkAt dk18epub_cX3_isOfKind_0_a 1 rfl
theorem dX3_isOfKind_4 : decode cX3_isOfKind 4 = .ok (.istore_n 2, 1) := dkAt dk18epub_cX3_isOfKind_0_a 2 rfl
theorem dX3_isOfKind_5 : decode cX3_isOfKind 5 = .ok (.iconst 0, 1) := dkAt dk18epub_cX3_isOfKind_0_a 3 rfl
theorem dX3_isOfKind_6 : decode cX3_isOfKind 6 = .ok (.istore_n 3, 1) := dkAt dk18epub_cX3_isOfKind_0_a 4 rfl
theorem dX3_isOfKind_7 : decode cX3_isOfKind 7 = .ok (.iload_n 3, 1) := dkAt dk18epub_cX3_isOfKind_0_a 5 rfl
theorem dX3_isOfKind_8 : decode cX3_isOfKind 8 = .ok (.bipush 7, 2) := dkAt dk18epub_cX3_isOfKind_0_a 6 rfl
theorem dX3_isOfKind_10 : decode cX3_isOfKind 10 = .ok (.if_icmp .ge 26, 3) := dkAt dk18epub_cX3_isOfKind_0_a 7 rfl
theorem dX3_isOfKind_13 : decode cX3_isOfKind 13 = .ok (.iload_n 2, 1) := dkAt dk18epub_cX3_isOfKind_0_a 8 rfl
theorem dX3_isOfKind_14 : decode cX3_isOfKind 14 = .ok (.ifCond .lt 22, 3) := dkAt dk18epub_cX3_isOfKind_0_a 9 rfl
theorem dX3_isOfKind_17 : decode cX3_isOfKind 17 = .ok (.iload_n 2, 1) := dkAt dk18epub_cX3_isOfKind_0_a 10 rfl
theorem dX3_isOfKind_18 : decode cX3_isOfKind 18 = .ok (.iload_n 1, 1) := dkAt dk18epub_cX3_isOfKind_0_a 11 rfl
theorem dX3_isOfKind_19 : decode cX3_isOfKind 19 = .ok (.if_icmp .ne 5, 3) := dkAt dk18epub_cX3_isOfKind_0_a 12 rfl
theorem dX3_isOfKind_24 : decode cX3_isOfKind 24 = .ok (.getstatic 24, 3) := dkAt dk18epub_cX3_isOfKind_0_a 13 rfl
theorem dX3_isOfKind_27 : decode cX3_isOfKind 27 = .ok (.iload_n 2, 1) := dkAt dk18epub_cX3_isOfKind_0_a 14 rfl
theorem dX3_isOfKind_28 : decode cX3_isOfKind 28 = .ok (.iaload, 1) := dkAt dk18epub_cX3_isOfKind_0_a 15 rfl
theorem dX3_isOfKind_29 : decode cX3_isOfKind 29 = .ok (.istore_n 2, 1) := dkAt dk18epub_cX3_isOfKind_0_a 16 rfl
theorem dX3_isOfKind_30 : decode cX3_isOfKind 30 = .ok (.iinc 3 1, 3) := dkAt dk18epub_cX3_isOfKind_0_a 17 rfl
theorem dX3_isOfKind_33 : decode cX3_isOfKind 33 = .ok (.goto (-26), 3) := dkAt dk18epub_cX3_isOfKind_0_a 18 rfl
theorem dX3_isOfKind_36 : decode cX3_isOfKind 36 = .ok (.iconst 0, 1) := dkAt dk18epub_cX3_isOfKind_0_a 19 rfl
theorem dX3_isOfKind_37 : decode cX3_isOfKind 37 = .ok (.ireturn, 1) := dkAt dk18epub_cX3_isOfKind_0_a 20 rfl
theorem dX3_isOfKind_22 : decode cX3_isOfKind 22 = .ok (.iconst 1, 1) := dkAt dk18epub_cX3_isOfKind_0_a 21 rfl
theorem dX3_isOfKind_23 : decode cX3_isOfKind 23 = .ok (.ireturn, 1) := dkAt dk18epub_cX3_isOfKind_0_a 22 rfl
noncomputable def dk18epub_cX11_as_0 : List (Nat × Instr × Nat) := [(0, .aload_n 0, 1), (1, .getfield 14, 3), (4, .iload_n 1, 1), (5, .invokevirtual 112, 3), (8, .astore_n 3, 1), (9, .aload_n 3, 1), (10, .ifnull 13, 3), (13, .iload_n 2, 1), (14, .ifCond .lt 9, 3), (23, .iconst (-1), 1), (24, .ireturn, 1), (17, .iload_n 2, 1), (18, .bipush 7, 2), (20, .if_icmp .lt 5, 3), (25, .aload_n 3, 1), (26, .iload_n 2, 1), (27, .invokevirtual 256, 3), (30, .ifCond .eq 10, 3), (33, .aload_n 3, 1), (34, .getfield 121, 3), (37, .goto 5, 3), (42, .ireturn, 1), (40, .bipush (-6), 2)]
set_option maxRecDepth 100000 in
theorem dk18epub_cX11_as_0_a : dkA cX11_as dk18epub_cX11_as_0 = true := by decide +kernel
theorem dX11_as_0 : decode cX11_as 0 = .ok (.aload_n 0, 1) := dkAt dk18epub_cX11_as_0_a 0 rfl
theorem dX11_as_1 : decode cX11_as 1 = .ok (.getfield 14, 3) := dkAt dk18epub_cX11_as_0_a 1 rfl
theorem dX11_as_4 : decode cX11_as 4 = .ok (.iload_n 1, 1) := dkAt dk18epub_cX11_as_0_a 2 rfl
theorem dX11_as_5 : decode cX11_as 5 = .ok (.invokevirtual 112, 3) := dkAt dk18epub_cX11_as_0_a 3 rfl
theorem dX11_as_8 : decode cX11_as 8 = .ok (.astore_n 3, 1) := dkAt dk18epub_cX11_as_0_a 4 rfl
theorem dX11_as_9 : decode cX11_as 9 = .ok (.aload_n 3, 1) := dkAt dk18epub_cX11_as_0_a 5 rfl
theorem dX11_as_10 : decode cX11_as 10 = .ok (.ifnull 13, 3) := dkAt dk18epub_cX11_as_0_a 6 rfl
theorem dX11_as_13 : decode cX11_as 13 = .ok (.iload_n 2, 1) := dkAt dk18epub_cX11_as_0_a 7 rfl
theorem dX11_as_14 : decode cX11_as 14 = .ok (.ifCond .lt 9, 3) := dkAt dk18epub_cX11_as_0_a 8 rfl
theorem dX11_as_23 : decode cX11_as 23 = .ok (.iconst (-1), 1) := dkAt dk18epub_cX11_as_0_a 9 rfl
theorem dX11_as_24 : decode cX11_as 24 = .ok (.ireturn, 1) := dkAt dk18epub_cX11_as_0_a 10 rfl
theorem dX11_as_17 : decode cX11_as 17 = .ok (.iload_n 2, 1) := dkAt dk18epub_cX11_as_0_a 11 rfl
theorem dX11_as_18 : decode cX11_as 18 = .ok (.bipush 7, 2) := dkAt dk18epub_cX11_as_0_a 12 rfl
theorem dX11_as_20 : decode cX11_as 20 = .ok (.if_icmp .lt 5, 3) := dkAt dk18epub_cX11_as_0_a 13 rfl
theorem dX11_as_25 : decode cX11_as 25 = .ok (.aload_n 3, 1) := dkAt dk18epub_cX11_as_0_a 14 rfl
theorem dX11_as_26 : decode cX11_as 26 = .ok (.iload_n 2, 1) := dkAt dk18epub_cX11_as_0_a 15 rfl
theorem dX11_as_27 : decode cX11_as 27 = .ok (.invokevirtual 256, 3) := dkAt dk18epub_cX11_as_0_a 16 rfl
theorem dX11_as_30 : decode cX11_as 30 = .ok (.ifCond .eq 10, 3) := dkAt dk18epub_cX11_as_0_a 17 rfl
theorem dX11_as_33 : decode cX11_as 33 = .ok (.aload_n 3, 1) := dkAt dk18epub_cX11_as_0_a 18 rfl
theorem dX11_as_34 : decode cX11_as 34 = .ok (.getfield 121, 3) := dkAt dk18epub_cX11_as_0_a 19 rfl
theorem dX11_as_37 : decode cX11_as 37 = .ok (.goto 5, 3) := dkAt dk18epub_cX11_as_0_a 20 rfl
theorem dX11_as_42 : decode cX11_as 42 = .ok (.ireturn, 1) := dkAt dk18epub_cX11_as_0_a 21 rfl
theorem dX11_as_40 : decode cX11_as 40 = .ok (.bipush (-6), 2) := dkAt dk18epub_cX11_as_0_a 22 rfl
noncomputable def dk18epub_cX11_image_0 : List (Nat × Instr × Nat) := [(0, .aload_n 0, 1), (1, .getfield 18, 3), (4, .aload_n 0, 1), (5, .getfield 14, 3), (8, .invokevirtual 259, 3), (11, .aload_n 0, 1), (12, .iconst 1, 1), (13, .putfield 21, 3), (16, .aload_n 0, 1), (17, .getfield 14, 3), (20, .getfield 101, 3), (23, .ireturn, 1)]
set_option maxRecDepth 100000 in
theorem dk18epub_cX11_image_0_a : dkA cX11_image dk18epub_cX11_image_0 = true := by decide +kernel
theorem dX11_image_0 : decode cX11_image 0 = .ok (.aload_n 0, 1) := dkAt dk18epub_cX11_image_0_a 0 rfl
theorem dX11_image_1 : decode cX11_image 1 = .ok (.getfield 18, 3) := dkAt dk18epub_cX11_image_0_a 1 rfl
theorem dX11_image_4 : decode cX11_image 4 = .ok (.aload_n 0, 1) := dkAt dk18epub_cX11_image_0_a 2 rfl
theorem dX11_image_5 : decode cX11_image 5 = .ok (.getfield 14, 3) := dkAt dk18epub_cX11_image_0_a 3 rfl
theorem dX11_image_8 : decode cX11_image 8 = .ok (.invokevirtual 259, 3) := dkAt dk18epub_cX11_image_0_a 4 rfl
theorem dX11_image_11 : decode cX11_image 11 = .ok (.aload_n 0, 1) := dkAt dk18epub_cX11_image_0_a 5 rfl
theorem dX11_image_12 : decode cX11_image 12 = .ok (.iconst 1, 1) := dkAt dk18epub_cX11_image_0_a 6 rfl
theorem dX11_image_13 : decode cX11_image 13 = .ok (.putfield 21, 3) := dkAt dk18epub_cX11_image_0_a 7 rfl
theorem dX11_image_16 : decode cX11_image 16 = .ok (.aload_n 0, 1) := dkAt dk18epub_cX11_image_0_a 8 rfl
theorem dX11_image_17 : decode cX11_image 17 = .ok (.getfield 14, 3) := dkAt dk18epub_cX11_image_0_a 9 rfl
theorem dX11_image_20 : decode cX11_image 20 = .ok (.getfield 101, 3) := dkAt dk18epub_cX11_image_0_a 10 rfl
theorem dX11_image_23 : decode cX11_image 23 = .ok (.ireturn, 1) := dkAt dk18epub_cX11_image_0_a 11 rfl
noncomputable def dk18epub_cX11_undo_0 : List (Nat × Instr × Nat) := [(0, .aload_n 0, 1), (1, .getfield 21, 3), (4, .ifCond .ne 6, 3), (10, .aload_n 0, 1), (11, .getfield 14, 3), (14, .aload_n 0, 1), (15, .getfield 18, 3), (18, .invokevirtual 259, 3), (21, .aload_n 0, 1), (22, .getfield 14, 3), (25, .getfield 101, 3), (28, .ireturn, 1), (7, .bipush (-3), 2), (9, .ireturn, 1)]
set_option maxRecDepth 100000 in
theorem dk18epub_cX11_undo_0_a : dkA cX11_undo dk18epub_cX11_undo_0 = true := by decide +kernel
theorem dX11_undo_0 : decode cX11_undo 0 = .ok (.aload_n 0, 1) := dkAt dk18epub_cX11_undo_0_a 0 rfl
theorem dX11_undo_1 : decode cX11_undo 1 = .ok (.getfield 21, 3) := dkAt dk18epub_cX11_undo_0_a 1 rfl
theorem dX11_undo_4 : decode cX11_undo 4 = .ok (.ifCond .ne 6, 3) := dkAt dk18epub_cX11_undo_0_a 2 rfl
theorem dX11_undo_10 : decode cX11_undo 10 = .ok (.aload_n 0, 1) := dkAt dk18epub_cX11_undo_0_a 3 rfl
theorem dX11_undo_11 : decode cX11_undo 11 = .ok (.getfield 14, 3) := dkAt dk18epub_cX11_undo_0_a 4 rfl
theorem dX11_undo_14 : decode cX11_undo 14 = .ok (.aload_n 0, 1) := dkAt dk18epub_cX11_undo_0_a 5 rfl
theorem dX11_undo_15 : decode cX11_undo 15 = .ok (.getfield 18, 3) := dkAt dk18epub_cX11_undo_0_a 6 rfl
theorem dX11_undo_18 : decode cX11_undo 18 = .ok (.invokevirtual 259, 3) := dkAt dk18epub_cX11_undo_0_a 7 rfl
theorem dX11_undo_21 : decode cX11_undo 21 = .ok (.aload_n 0, 1) := dkAt dk18epub_cX11_undo_0_a 8 rfl
theorem dX11_undo_22 : decode cX11_undo 22 = .ok (.getfield 14, 3) := dkAt dk18epub_cX11_undo_0_a 9 rfl
theorem dX11_undo_25 : decode cX11_undo 25 = .ok (.getfield 101, 3) := dkAt dk18epub_cX11_undo_0_a 10 rfl
theorem dX11_undo_28 : decode cX11_undo 28 = .ok (.ireturn, 1) := dkAt dk18epub_cX11_undo_0_a 11 rfl
theorem dX11_undo_7 : decode cX11_undo 7 = .ok (.bipush (-3), 2) := dkAt dk18epub_cX11_undo_0_a 12 rfl
theorem dX11_undo_9 : decode cX11_undo 9 = .ok (.ireturn, 1) := dkAt dk18epub_cX11_undo_0_a 13 rfl
theorem kc_xLine_0 : ∀ w ∈ wsX110, w ∈ wsX11_line := fun w h => List.mem_cons_of_mem _ (gin_wsX110 w h)
theorem kc_xLine_1 : (.fieldLink RX11 14 "MistHeaps" "scene" "LMistHeaps$Scene;" : Cond) ∈ wsX11_line := kc_of 328 rfl rfl rfl
theorem kc_xLine_2 : ∀ w ∈ wsX80, w ∈ wsX11_line := fun w h => List.mem_cons_of_mem _ (gin_wsX80 w h)
theorem kc_xLine_3 : (.fieldLink RX11 68 "MistHeaps$Scene" "hill" "LMistHeaps$Hill;" : Cond) ∈ wsX11_line := kc_of 157 rfl rfl rfl
theorem kc_xLine_4 : (.fieldLink RX11 91 "MistHeaps$Hill" "sight" "I" : Cond) ∈ wsX11_line := kc_of 115 rfl rfl rfl
theorem kc_xLine_5 : ∀ w ∈ wsX50, w ∈ wsX11_line := fun w h => List.mem_cons_of_mem _ (gin_wsX50 w h)
theorem kc_xLine_6 : (.fieldLink RX11 85 "MistHeaps$Scene" "mist" "I" : Cond) ∈ wsX11_line := kc_of 164 rfl rfl rfl
theorem kc_xLine_7 : (.methodLink RX11 204 Lib.Math.max.name : Cond) ∈ wsX11_line := kc_of 706 rfl rfl rfl
theorem kc_xLine_8 : (.static Lib.Math.max.name : Cond) ∈ wsX11_line := kc_of 426 rfl rfl rfl
theorem kc_xLine_9 : (.initialized "java/lang/Math" : Cond) ∈ wsX11_line := kc_of 77 rfl rfl rfl
theorem kc_xLine_10 : (.code Lib.Math.max.name Lib.Math.max.code 2 (some .int) : Cond) ∈ wsX11_line := kc_of 427 rfl rfl rfl
theorem kc_xLine_11 : (.fieldLink RX11 101 "MistHeaps$Scene" "heapCount" "I" : Cond) ∈ wsX11_line := kc_of 173 rfl rfl rfl
theorem kc_xLine_12 : (.fieldLink RX11 124 "MistHeaps$Heap" "cell" "I" : Cond) ∈ wsX11_line := kc_of 251 rfl rfl rfl
theorem kc_xLine_14 : (.fieldLink RX11 104 "MistHeaps$Scene" "heaps" "[LMistHeaps$Heap;" : Cond) ∈ wsX11_line := kc_of 170 rfl rfl rfl
theorem kc_xLine_13 : ∀ C ∈ hpC, ∀ w ∈ u_ws C.1 C.2.1 C.2.2, w ∈ wsX11_line := by decide +kernel
set_option maxHeartbeats 4000000 in
set_option maxRecDepth 100000 in
theorem c_xLine (l : Launch) (dC : Nat → ClassId) (dI : Nat → Nat → Nat)   (h0 : Nat) (sc : Nat) (kp : Nat) (bl : Nat) (go : Nat) (ch : Nat) (bo : Nat) (aTp : Nat) (aHl : Nat) (aHs : Nat) (aWk : Nat) (aBk : Nat) (aFc : Nat) (bW : Nat) (bA : Nat) (bE : Nat) (bC : Nat) (ts : Nat) (nh : Nat) (n : Nat) (wz : Nat) (bz : Nat) (cl : Nat) (mi : Int32) (sn : Int32) (sg : Int32) (cdd : Int32) (szz : Int32) (att : Int32) (nmb : Int32) (ik : Int32) (x : Int32) (y : Int32) (ed : Int64) (cHs : ClassId) (cbW : ClassId) (cbA : ClassId) (cbE : ClassId) (cbC : ClassId) (fbW : Nat → Int32) (fbA : Nat → Int32) (fbE : Nat → Int32) (fbC : Nat → Int32) (yk : Nat → Int32) (yv : Nat → Int32) (yc : Nat → Int32) (fHs : Nat → Option Nat) (yi : Nat → Nat) (ya : Nat → Nat) (tpv : Value) (hC : List pCla) (zhs : ∀ k0, k0 < n → fHs k0 = some (ya k0)) (hn8 : n ≤ 8) (hsg : sg = nI (sgC hC)) (hwf : WfC hC) (hmi : mb mi) : Met l yX11_line wsX11_line ({ frames := 2, cells := 0, slots := 0, locals := 41 } : Room) (va_Pc [.ref h0, .int x, .int y] (fun U => va_P (dC, dI) vwCl [(zo13rrirrrr h0 sc kp ik bl go ch bo), (zo10ririliiriririr sc aTp (nI ts) aHl (nI nh) ed mi sn aHs (nI n) aWk (nI wz) aBk (nI bz) aFc), (zaR aHs cHs 8 fHs)] U.heap ∧ va_K (dC, dI) vwCl [(cHs, .object "MistHeaps$Heap")] U ∧ Fz dC dI [(zo7iirrrriviii aHl sg (nI cl) bW bA bE bC cdd tpv szz att nmb), (zaI bW cbW 10 fbW), (zaI bA cbA 10 fbA), (zaI bE cbE 10 fbE), (zaI bC cbC 100 fbC)] [(cbW, .int), (cbA, .int), (cbE, .int), (cbC, .int)] (fun _ => False) U ∧ Hs dC dI n yi ya yk yv yc (fun _ => False) U)) (vp_Si (fun r => r = lnR n yc (sgC hC) mi x y)) 0 0 (fun _ => False) := by
  refine met_ofQ (cc := cX11_line) (maxL := 7) (ret := (some .int)) (by decide) rfl ?_
  intro p e s m args below meth c s₁ Q B hml hv hQ
  obtain ⟨rfl, hP, hK, hZ, hH_⟩ := hv
  have hx := B.exec
  have hb := B.bytes
  have hr := B.returns
  have hts := atoms_spec (ws := wsX11_line) B.pre
  have hown : s.vm.findClass RX11 = some m.cls := findClass_of_methodNamed B.named
  have hlocks := B.notSynchronized
  obtain ⟨A, hAe⟩ : ∃ A : Nat → Prop, A = fun _ => False := ⟨_, rfl⟩
  rw [← hAe] at hQ hZ hH_
  have hS : va_S A s.heap s.heap [] := va_S.rf
  have hl := lv_entry [.ref h0, .int x, .int y] (n := 7) (Nat.le_of_ble_eq_true rfl)
  rw [lg_entry_eq]
  generalize (lg_sl [.ref h0, .int x, .int y] ++ List.replicate (7 - (lg_sl [.ref h0, .int x, .int y]).length) Slot.unset).toArray = ls at hl ⊢
  generalize hag : ([.ref h0, .int x, .int y] : List Value).toArray = args at hts hQ ⊢
  have hl : lv_has ls 7 [(0, .ref h0), (1, .int x), (2, .int y)] := hl
  subst hsg
  refine lv_aload_n hx hb dX11_line_0 rfl (lv_at hl 0 rfl) ?_
  refine va_get (D := (dC, dI)) (ci := 13) (v := .ref sc) (C := RX11) (T := TX11) (N := 7) hx hb hts kc_xLine_0 hown hK hP 0 rfl rfl 0 (by decide) (hts (.fieldLink RX11 14 "MistHeaps" "scene" "LMistHeaps$Scene;") kc_xLine_1) (fun _ h9 => h9) rfl dX11_line_1 ?_
  refine lv_iload_n hx hb dX11_line_4 rfl (lv_at hl 1 rfl) ?_
  have hPc := hP.sub (ws' := [(zo10ririliiriririr sc aTp (nI ts) aHl (nI nh) ed mi sn aHs (nI n) aWk (nI wz) aBk (nI bz) aFc), (zaR aHs cHs 8 fHs)]) [1, 2] rfl
  have hKc := hK.sub (tys' := [(cHs, .object "MistHeaps$Heap")]) [0] rfl
  refine va_csq (va_runV (As := [.int x]) (rest := []) ⟨hx, hb, hml, hown, hts⟩ (c_heapAt l dC dI sc aTp aHl aHs aWk aBk aFc ts nh n wz bz mi sn x ed cHs fHs ya (zhs) (hn8)) (cwV 1 hts gX11_line_X8_heapAt rfl rfl rfl hd_yX8_heapAt ⟨Nat.le_of_ble_eq_true rfl, Nat.le_of_ble_eq_true rfl⟩) ⟨fun a U g mk q => by obtain ⟨q0, qP, qK⟩ := q; exact ⟨q0, qP, va_K.moved (u := U) (U := U.calling g mk a) (Vm.Alike.refl U.vm) qK⟩, va_recv hK hP (ci := 10) (q := (RX8, TX8, 14)) (q0 := 1) rfl rfl, fun U hU hW => ⟨rfl, by rw [hU]; exact hPc, va_K.moved hW.alike hKc⟩⟩ rfl rfl hl.1 rfl (lv_room (Nat.le_of_ble_eq_true rfl)) dX11_line_5 ⟨Nat.le_of_ble_eq_true rfl, Nat.le_of_ble_eq_true rfl⟩).run (fun r_1 hw_2 => ?_)
  rcases hw_2 with ⟨j_3, hj_4, rfl, rfl⟩ | ⟨rfl, h_6⟩
  · skip
    refine qq_as (v := .ref (ya j_3)) rfl ?_
    refine lv_astore_n (lv' := [(3, .ref (ya j_3)), (0, .ref h0), (1, .int (nI j_3)), (2, .int y)]) hx hb dX11_line_8 rfl hl (by decide) rfl (fun ls hl => ?_)
    refine lv_aload_n hx hb dX11_line_9 rfl (lv_at hl 0 rfl) ?_
    refine lv_ifnonnull (tgt := 15) hx hb dX11_line_10 (by decide) ?_
    refine lv_iload_n hx hb dX11_line_15 rfl (lv_at hl 3 rfl) ?_
    refine lv_iconst (v := 1) hx hb dX11_line_16 (by decide) ?_
    refine lv_icmp_lt (tgt := 26) hx hb dX11_line_17 (by decide) (fun c_7 => ?_) (fun c_7 => ?_)
    · skip
      refine lv_bipush (v := (-2)) hx hb dX11_line_26 (by decide) ?_
      rw [hQ]
      exact W.iret (v := (-2)) hx hb hr (fun tQ htQ hWQ => ⟨(-2), rfl, ln_bad hn8 (by omega) (by first | exact Or.inl (by assumption) | exact Or.inr (Int32.not_le.mp (by assumption))), by rw [htQ]⟩) (fun q hq => absurd hq List.not_mem_nil) dX11_line_28
    · skip
      refine lv_iload_n hx hb dX11_line_20 rfl (lv_at hl 3 rfl) ?_
      refine lv_bipush (v := 9) hx hb dX11_line_21 (by decide) ?_
      refine lv_icmp_le (tgt := 29) hx hb dX11_line_23 (by decide) (fun c_8 => ?_) (fun c_8 => ?_)
      · skip
        refine lv_iload_n hx hb dX11_line_29 rfl (lv_at hl 3 rfl) ?_
        refine lv_iconst (v := 1) hx hb dX11_line_30 (by decide) ?_
        refine lv_isub hx hb dX11_line_31 ?_
        refine lv_iconst (v := 0) hx hb dX11_line_32 (by decide) ?_
        refine lv_aload_n hx hb dX11_line_33 rfl (lv_at hl 1 rfl) ?_
        refine va_get (D := (dC, dI)) (ci := 13) (v := .ref sc) (C := RX11) (T := TX11) (N := 7) hx hb hts kc_xLine_0 hown hK hP 0 rfl rfl 0 (by decide) (hts (.fieldLink RX11 14 "MistHeaps" "scene" "LMistHeaps$Scene;") kc_xLine_1) (fun _ h9 => h9) rfl dX11_line_34 ?_
        refine va_get (D := (dC, dI)) (ci := 10) (v := .ref aHl) (C := RX8) (T := TX8) (N := 14) hx hb hts kc_xLine_2 hown hK hP 1 rfl rfl 2 (by decide) (hts (.fieldLink RX11 68 "MistHeaps$Scene" "hill" "LMistHeaps$Hill;") kc_xLine_3) (fun _ h9 => h9) rfl dX11_line_37 ?_
        refine va_get (D := (dC, dI)) (ci := 7) (v := .int (nI (sgC hC))) (C := RX5) (T := TX5) (N := 11) hx hb hts kc_xLine_5 hown hZ.2.1 (hZ.P hS) 0 rfl rfl 0 (by decide) (hts (.fieldLink RX11 91 "MistHeaps$Hill" "sight" "I") kc_xLine_4) (fun _ h9 => h9) rfl dX11_line_40 ?_
        refine lv_aload_n hx hb dX11_line_43 rfl (lv_at hl 1 rfl) ?_
        refine va_get (D := (dC, dI)) (ci := 13) (v := .ref sc) (C := RX11) (T := TX11) (N := 7) hx hb hts kc_xLine_0 hown hK hP 0 rfl rfl 0 (by decide) (hts (.fieldLink RX11 14 "MistHeaps" "scene" "LMistHeaps$Scene;") kc_xLine_1) (fun _ h9 => h9) rfl dX11_line_44 ?_
        refine va_get (D := (dC, dI)) (ci := 10) (v := .int mi) (C := RX8) (T := TX8) (N := 14) hx hb hts kc_xLine_2 hown hK hP 1 rfl rfl 5 (by decide) (hts (.fieldLink RX11 85 "MistHeaps$Scene" "mist" "I") kc_xLine_6) (fun _ h9 => h9) rfl dX11_line_47 ?_
        refine lv_isub hx hb dX11_line_50 ?_
        refine va_mmax hx hb (by rw [hml]; exact hl.1.symm) hown (hts (.methodLink RX11 204 Lib.Math.max.name) kc_xLine_7) (hts (.static Lib.Math.max.name) kc_xLine_8) (hts (.initialized "java/lang/Math") kc_xLine_9) (hts (.code Lib.Math.max.name Lib.Math.max.code 2 (some .int)) kc_xLine_10) (Nat.le_of_ble_eq_true rfl) (Nat.le_of_ble_eq_true rfl) (Nat.le_of_ble_eq_true rfl) (Nat.le_of_ble_eq_true rfl) dX11_line_51 ?_
        refine qi_as (y := lnE (sgC hC) mi) (ln_mx hmi (sgC_le hwf)) ?_
        refine lv_imul hx hb dX11_line_54 ?_
        refine lv_istore (lv' := [(4, .int ((y - 1) * (lnE (sgC hC) mi))), (3, .ref (ya j_3)), (0, .ref h0), (1, .int (nI j_3)), (2, .int y)]) hx hb dX11_line_55 hl (by decide) rfl (fun ls hl => ?_)
        obtain ⟨G9, hG9⟩ : ∃ G : Nat → Int32, G = lnB (fun k => apR (yc j_3) (yc k)) j_3 ((y - 1) * lnE (sgC hC) mi) := ⟨_, rfl⟩
        refine lv_iconst (v := 0) hx hb dX11_line_57 (by decide) ?_
        refine lv_istore (lv' := [(5, .int 0), (4, .int ((y - 1) * (lnE (sgC hC) mi))), (3, .ref (ya j_3)), (0, .ref h0), (1, .int (nI j_3)), (2, .int y)]) hx hb dX11_line_58 hl (by decide) rfl (fun ls hl => ?_)
        refine lv_iconst (v := 0) hx hb dX11_line_60 (by decide) ?_
        refine lv_istore (lv' := [(6, .int 0), (5, .int 0), (4, .int ((y - 1) * (lnE (sgC hC) mi))), (3, .ref (ya j_3)), (0, .ref h0), (1, .int (nI j_3)), (2, .int y)]) hx hb dX11_line_61 hl (by decide) rfl (fun ls hl => ?_)
        have L63 : ∀ (nF : Nat) (i : Nat) (q : Int32), n - i < nF → (i ≤ n) → (q = G9 i) → ∀ (ls : Array Slot), lv_has ls 7 [(0, .ref h0), (1, .int (nI j_3)), (3, .ref (ya j_3)), (4, .int ((y - 1) * (lnE (sgC hC) mi))), (5, .int q), (6, .int (nI i))] → W p l e ({ frames := 2, cells := 0, slots := 0, locals := 41 } : Room) s m args below meth c s.heap [] 0 0 Q (F0 m 63 ls []) := by
          intro nF
          induction nF with
          | zero => intro i q hm; exact absurd hm (Nat.not_lt_zero _)
          | succ nF ih63 =>
            intro i q hm hi hq9 ls hl
            refine lv_iload hx hb dX11_line_63 (lv_at hl 5 rfl) ?_
            refine lv_aload_n hx hb dX11_line_65 rfl (lv_at hl 0 rfl) ?_
            refine va_get (D := (dC, dI)) (ci := 13) (v := .ref sc) (C := RX11) (T := TX11) (N := 7) hx hb hts kc_xLine_0 hown hK hP 0 rfl rfl 0 (by decide) (hts (.fieldLink RX11 14 "MistHeaps" "scene" "LMistHeaps$Scene;") kc_xLine_1) (fun _ h9 => h9) rfl dX11_line_66 ?_
            refine va_get (D := (dC, dI)) (ci := 10) (v := .int (nI n)) (C := RX8) (T := TX8) (N := 14) hx hb hts kc_xLine_2 hown hK hP 1 rfl rfl 8 (by decide) (hts (.fieldLink RX11 101 "MistHeaps$Scene" "heapCount" "I") kc_xLine_11) (fun _ h9 => h9) rfl dX11_line_69 ?_
            refine lv_icmp_ge (tgt := 121) hx hb dX11_line_72 (by decide) (fun c_9 => ?_) (fun c_9 => ?_)
            · skip
              have c_9 : n ≤ i := (nI_leI (a := n) (b := i) (by omega) (by omega)).mp c_9
              refine lv_iload hx hb dX11_line_121 (lv_at hl 4 rfl) ?_
              rw [hQ]
              exact W.iret (v := q) hx hb hr (fun tQ htQ hWQ => ⟨q, rfl, ln_ok hn8 (by omega) (by assumption) (Int32.not_lt.mpr (by assumption)) hG9 hq9 (by omega), by rw [htQ]⟩) (fun q hq => absurd hq List.not_mem_nil) dX11_line_123
            · skip
              have c_9 : ¬ n ≤ i := fun q => c_9 ((nI_leI (a := n) (b := i) (by omega) (by omega)).mpr q)
              refine lv_iload hx hb dX11_line_75 (lv_at hl 5 rfl) ?_
              refine lv_iload_n hx hb dX11_line_77 rfl (lv_at hl 1 rfl) ?_
              refine lv_icmp_eq (tgt := 115) hx hb dX11_line_78 (by decide) (fun c_10 => ?_) (fun c_10 => ?_)
              · skip
                have c_10 : i = j_3 := (nI_eq (a := i) (b := j_3) (by omega) (by omega)).mp c_10
                refine lv_iinc (v := nI (i + 1)) (lv' := [(6, .int (nI (i + 1))), (0, .ref h0), (1, .int (nI j_3)), (3, .ref (ya j_3)), (4, .int ((y - 1) * (lnE (sgC hC) mi))), (5, .int q)]) hx hb dX11_line_115 hl (k := 5) rfl (nI_add i 1) (by decide) rfl (fun ls hl => ?_)
                refine lv_goto (tgt := 63) hx hb dX11_line_118 (by decide) ?_
                exact ih63 (i + 1) (q) (by omega) (by omega) (ln_s hG9 hq9 (Or.inl (by omega))) ls (lv_sub hl [1, 2, 3, 4, 5, 0] rfl)
              · skip
                have c_10 : ¬ i = j_3 := fun q => c_10 ((nI_eq (a := i) (b := j_3) (by omega) (by omega)).mpr q)
                refine lv_aload_n hx hb dX11_line_81 rfl (lv_at hl 2 rfl) ?_
                refine va_hget3 (v := .int (yc j_3)) hx hb hts kc_xLine_13 hown (hH_ j_3 (by omega)).1 (hH_ j_3 (by omega)).2 hS (hts (.fieldLink RX11 124 "MistHeaps$Heap" "cell" "I") kc_xLine_12) dX11_line_82 rfl ?_
                refine lv_aload_n hx hb dX11_line_85 rfl (lv_at hl 0 rfl) ?_
                refine va_get (D := (dC, dI)) (ci := 13) (v := .ref sc) (C := RX11) (T := TX11) (N := 7) hx hb hts kc_xLine_0 hown hK hP 0 rfl rfl 0 (by decide) (hts (.fieldLink RX11 14 "MistHeaps" "scene" "LMistHeaps$Scene;") kc_xLine_1) (fun _ h9 => h9) rfl dX11_line_86 ?_
                refine va_get (D := (dC, dI)) (ci := 10) (v := .ref aHs) (C := RX8) (T := TX8) (N := 14) hx hb hts kc_xLine_2 hown hK hP 1 rfl rfl 7 (by decide) (hts (.fieldLink RX11 104 "MistHeaps$Scene" "heaps" "[LMistHeaps$Heap;") kc_xLine_14) (fun _ h9 => h9) rfl dX11_line_89 ?_
                refine lv_iload hx hb dX11_line_92 (lv_at hl 5 rfl) ?_
                refine va_aldq hx hb hK hP 2 0 rfl rfl (vp_in_nI (n := i) (N := 8) (by omega) (by omega)) dX11_line_94 ?_
                refine qq_as (v := .ref (ya i)) (by rw [nI_clamp (by omega), zhs i (by omega)]; rfl) ?_
                refine va_hget3 (v := .int (yc i)) hx hb hts kc_xLine_13 hown (hH_ i (by omega)).1 (hH_ i (by omega)).2 hS (hts (.fieldLink RX11 124 "MistHeaps$Heap" "cell" "I") kc_xLine_12) dX11_line_95 rfl ?_
                refine vp_callSi (va_runS (As := [.int (yc j_3), .int (yc i)]) (rest := []) ⟨hx, hb, hml, hown, hts⟩ (c_xApart l dC dI (yc j_3) (yc i)) (va_cwS 2 hts gX11_line_X11_apart rfl rfl rfl hd_yX11_apart.2 ⟨Nat.le_of_ble_eq_true rfl, Nat.le_of_ble_eq_true rfl⟩) ⟨fun a U g mk q => ⟨q.1, trivial⟩, fun U hU hW => ⟨rfl, trivial⟩⟩ rfl rfl hl.1 rfl (lv_room (Nat.le_of_ble_eq_true rfl)) dX11_line_98 ⟨Nat.le_of_ble_eq_true rfl, Nat.le_of_ble_eq_true rfl⟩).run (fun r_11 hw_12 => ?_)
                obtain rfl := hw_12
                refine lv_iload hx hb dX11_line_101 (lv_at hl 3 rfl) ?_
                refine lv_icmp_gt (tgt := 115) hx hb dX11_line_103 (by decide) (fun c_13 => ?_) (fun c_13 => ?_)
                · skip
                  refine lv_iinc (v := nI (i + 1)) (lv' := [(6, .int (nI (i + 1))), (0, .ref h0), (1, .int (nI j_3)), (3, .ref (ya j_3)), (4, .int ((y - 1) * (lnE (sgC hC) mi))), (5, .int q)]) hx hb dX11_line_115 hl (k := 5) rfl (nI_add i 1) (by decide) rfl (fun ls hl => ?_)
                  refine lv_goto (tgt := 63) hx hb dX11_line_118 (by decide) ?_
                  exact ih63 (i + 1) (q) (by omega) (by omega) (ln_s hG9 hq9 (Or.inr c_13)) ls (lv_sub hl [1, 2, 3, 4, 5, 0] rfl)
                · skip
                  refine lv_iload hx hb dX11_line_106 (lv_at hl 4 rfl) ?_
                  refine lv_iconst (v := 1) hx hb dX11_line_108 (by decide) ?_
                  refine lv_iload hx hb dX11_line_109 (lv_at hl 5 rfl) ?_
                  refine lv_ishl hx hb dX11_line_111 ?_
                  refine lv_ior hx hb dX11_line_112 ?_
                  refine lv_istore (lv' := [(5, .int (q ||| (1 <<< ((nI i) &&& 31)))), (0, .ref h0), (1, .int (nI j_3)), (3, .ref (ya j_3)), (4, .int ((y - 1) * (lnE (sgC hC) mi))), (6, .int (nI i))]) hx hb dX11_line_113 hl (by decide) rfl (fun ls hl => ?_)
                  refine lv_iinc (v := nI (i + 1)) (lv' := [(6, .int (nI (i + 1))), (5, .int (q ||| (1 <<< ((nI i) &&& 31)))), (0, .ref h0), (1, .int (nI j_3)), (3, .ref (ya j_3)), (4, .int ((y - 1) * (lnE (sgC hC) mi)))]) hx hb dX11_line_115 hl (k := 5) rfl (nI_add i 1) (by decide) rfl (fun ls hl => ?_)
                  refine lv_goto (tgt := 63) hx hb dX11_line_118 (by decide) ?_
                  exact ih63 (i + 1) (q ||| (1 <<< ((nI i) &&& 31))) (by omega) (by omega) (ln_1 hG9 hq9 (by omega) c_13) ls (lv_sub hl [2, 3, 4, 5, 1, 0] rfl)
        exact L63 _ (0) (0) (Nat.lt_succ_self _) (by omega) (by rw [hG9]; rfl) ls (lv_sub hl [4, 5, 3, 2, 1, 0] rfl)
      · skip
        refine lv_bipush (v := (-2)) hx hb dX11_line_26 (by decide) ?_
        rw [hQ]
        exact W.iret (v := (-2)) hx hb hr (fun tQ htQ hWQ => ⟨(-2), rfl, ln_bad hn8 (by omega) (by first | exact Or.inl (by assumption) | exact Or.inr (Int32.not_le.mp (by assumption))), by rw [htQ]⟩) (fun q hq => absurd hq List.not_mem_nil) dX11_line_28
  · skip
    refine qq_as (v := .null) rfl ?_
    refine lv_astore_nN (lv' := [(3, .null), (0, .ref h0), (1, .int x), (2, .int y)]) hx hb dX11_line_8 rfl hl (by decide) rfl (fun ls hl => ?_)
    refine lv_aload_nN hx hb dX11_line_9 rfl (lv_at hl 0 rfl) ?_
    refine lv_ifnonnullN hx hb dX11_line_10 ?_
    refine lv_iconst (v := (-1)) hx hb dX11_line_13 (by decide) ?_
    rw [hQ]
    exact W.iret (v := (-1)) hx hb hr (fun tQ htQ hWQ => ⟨(-1), rfl, ln_no (by assumption), by rw [htQ]⟩) (fun q hq => absurd hq List.not_mem_nil) dX11_line_14

theorem kc_xNext_0 : ∀ w ∈ wsX110, w ∈ wsX11_next := fun w h => List.mem_cons_of_mem _ (gin_wsX110 w h)
theorem kc_xNext_1 : (.fieldLink RX11 14 "MistHeaps" "scene" "LMistHeaps$Scene;" : Cond) ∈ wsX11_next := kc_of 328 rfl rfl rfl
theorem kc_xNext_2 : (.fieldLink RX11 124 "MistHeaps$Heap" "cell" "I" : Cond) ∈ wsX11_next := kc_of 251 rfl rfl rfl
theorem kc_xNext_3 : ∀ C ∈ hpC, ∀ w ∈ u_ws C.1 C.2.1 C.2.2, w ∈ wsX11_next := by decide +kernel
set_option maxHeartbeats 4000000 in
set_option maxRecDepth 100000 in
theorem c_xNext (l : Launch) (dC : Nat → ClassId) (dI : Nat → Nat → Nat)  (h0 : Nat) (sc : Nat) (kp : Nat) (bl : Nat) (go : Nat) (ch : Nat) (bo : Nat) (aTp : Nat) (aHl : Nat) (aHs : Nat) (aWk : Nat) (aBk : Nat) (aFc : Nat) (ts : Nat) (nh : Nat) (n : Nat) (wz : Nat) (bz : Nat) (mi : Int32) (sn : Int32) (ik : Int32) (x : Int32) (y : Int32) (z : Int32) (ed : Int64) (cHs : ClassId) (yk : Nat → Int32) (yv : Nat → Int32) (yc : Nat → Int32) (fHs : Nat → Option Nat) (yi : Nat → Nat) (ya : Nat → Nat) (zhs : ∀ k0, k0 < n → fHs k0 = some (ya k0)) (hn8 : n ≤ 8) : Met l yX11_next wsX11_next ({ frames := 1, cells := 0, slots := 0, locals := 21 } : Room) (va_Pc [.ref h0, .int x, .int y, .int z] (fun U => va_P (dC, dI) vwCl [(zo13rrirrrr h0 sc kp ik bl go ch bo), (zo10ririliiriririr sc aTp (nI ts) aHl (nI nh) ed mi sn aHs (nI n) aWk (nI wz) aBk (nI bz) aFc), (zaR aHs cHs 8 fHs)] U.heap ∧ va_K (dC, dI) vwCl [(cHs, .object "MistHeaps$Heap")] U ∧ Hs dC dI n yi ya yk yv yc (fun _ => False) U)) (vp_Si (fun r => r = nxR n yc x y z)) 0 0 (fun _ => False) := by
  refine met_ofQ (cc := cX11_next) (maxL := 9) (ret := (some .int)) (by decide) rfl ?_
  intro p e s m args below meth c s₁ Q B hml hv hQ
  obtain ⟨rfl, hP, hK, hH_⟩ := hv
  have hx := B.exec
  have hb := B.bytes
  have hr := B.returns
  have hts := atoms_spec (ws := wsX11_next) B.pre
  have hown : s.vm.findClass RX11 = some m.cls := findClass_of_methodNamed B.named
  have hlocks := B.notSynchronized
  obtain ⟨A, hAe⟩ : ∃ A : Nat → Prop, A = fun _ => False := ⟨_, rfl⟩
  rw [← hAe] at hQ hH_
  have hS : va_S A s.heap s.heap [] := va_S.rf
  have hl := lv_entry [.ref h0, .int x, .int y, .int z] (n := 9) (Nat.le_of_ble_eq_true rfl)
  rw [lg_entry_eq]
  generalize (lg_sl [.ref h0, .int x, .int y, .int z] ++ List.replicate (9 - (lg_sl [.ref h0, .int x, .int y, .int z]).length) Slot.unset).toArray = ls at hl ⊢
  generalize hag : ([.ref h0, .int x, .int y, .int z] : List Value).toArray = args at hts hQ ⊢
  have hl : lv_has ls 9 [(0, .ref h0), (1, .int x), (2, .int y), (3, .int z)] := hl
  refine lv_aload_n hx hb dX11_next_0 rfl (lv_at hl 0 rfl) ?_
  refine va_get (D := (dC, dI)) (ci := 13) (v := .ref sc) (C := RX11) (T := TX11) (N := 7) hx hb hts kc_xNext_0 hown hK hP 0 rfl rfl 0 (by decide) (hts (.fieldLink RX11 14 "MistHeaps" "scene" "LMistHeaps$Scene;") kc_xNext_1) (fun _ h9 => h9) rfl dX11_next_1 ?_
  refine lv_iload_n hx hb dX11_next_4 rfl (lv_at hl 1 rfl) ?_
  have hPc := hP.sub (ws' := [(zo10ririliiriririr sc aTp (nI ts) aHl (nI nh) ed mi sn aHs (nI n) aWk (nI wz) aBk (nI bz) aFc), (zaR aHs cHs 8 fHs)]) [1, 2] rfl
  have hKc := hK.sub (tys' := [(cHs, .object "MistHeaps$Heap")]) [0] rfl
  refine va_csq (va_runV (As := [.int x]) (rest := []) ⟨hx, hb, hml, hown, hts⟩ (c_heapAt l dC dI sc aTp aHl aHs aWk aBk aFc ts nh n wz bz mi sn x ed cHs fHs ya (zhs) (hn8)) (cwV 1 hts gX11_next_X8_heapAt rfl rfl rfl hd_yX8_heapAt ⟨Nat.le_of_ble_eq_true rfl, Nat.le_of_ble_eq_true rfl⟩) ⟨fun a U g mk q => by obtain ⟨q0, qP, qK⟩ := q; exact ⟨q0, qP, va_K.moved (u := U) (U := U.calling g mk a) (Vm.Alike.refl U.vm) qK⟩, va_recv hK hP (ci := 10) (q := (RX8, TX8, 14)) (q0 := 1) rfl rfl, fun U hU hW => ⟨rfl, by rw [hU]; exact hPc, va_K.moved hW.alike hKc⟩⟩ rfl rfl hl.1 rfl (lv_room (Nat.le_of_ble_eq_true rfl)) dX11_next_5 ⟨Nat.le_of_ble_eq_true rfl, Nat.le_of_ble_eq_true rfl⟩).run (fun r_1 hw_2 => ?_)
  rcases hw_2 with ⟨j_3, hj_4, rfl, rfl⟩ | ⟨rfl, h_6⟩
  · skip
    refine qq_as (v := .ref (ya j_3)) rfl ?_
    refine lv_astore (lv' := [(4, .ref (ya j_3)), (0, .ref h0), (1, .int (nI j_3)), (2, .int y), (3, .int z)]) hx hb dX11_next_8 hl (by decide) rfl (fun ls hl => ?_)
    refine lv_aload_n hx hb dX11_next_10 rfl (lv_at hl 1 rfl) ?_
    refine va_get (D := (dC, dI)) (ci := 13) (v := .ref sc) (C := RX11) (T := TX11) (N := 7) hx hb hts kc_xNext_0 hown hK hP 0 rfl rfl 0 (by decide) (hts (.fieldLink RX11 14 "MistHeaps" "scene" "LMistHeaps$Scene;") kc_xNext_1) (fun _ h9 => h9) rfl dX11_next_11 ?_
    refine lv_iload_n hx hb dX11_next_14 rfl (lv_at hl 3 rfl) ?_
    have hPc := hP.sub (ws' := [(zo10ririliiriririr sc aTp (nI ts) aHl (nI nh) ed mi sn aHs (nI n) aWk (nI wz) aBk (nI bz) aFc), (zaR aHs cHs 8 fHs)]) [1, 2] rfl
    have hKc := hK.sub (tys' := [(cHs, .object "MistHeaps$Heap")]) [0] rfl
    refine va_csq (va_runV (As := [.int y]) (rest := []) ⟨hx, hb, hml, hown, hts⟩ (c_heapAt l dC dI sc aTp aHl aHs aWk aBk aFc ts nh n wz bz mi sn y ed cHs fHs ya (zhs) (hn8)) (cwV 1 hts gX11_next_X8_heapAt rfl rfl rfl hd_yX8_heapAt ⟨Nat.le_of_ble_eq_true rfl, Nat.le_of_ble_eq_true rfl⟩) ⟨fun a U g mk q => by obtain ⟨q0, qP, qK⟩ := q; exact ⟨q0, qP, va_K.moved (u := U) (U := U.calling g mk a) (Vm.Alike.refl U.vm) qK⟩, va_recv hK hP (ci := 10) (q := (RX8, TX8, 14)) (q0 := 1) rfl rfl, fun U hU hW => ⟨rfl, by rw [hU]; exact hPc, va_K.moved hW.alike hKc⟩⟩ rfl rfl hl.1 rfl (lv_room (Nat.le_of_ble_eq_true rfl)) dX11_next_15 ⟨Nat.le_of_ble_eq_true rfl, Nat.le_of_ble_eq_true rfl⟩).run (fun r_7 hw_8 => ?_)
    rcases hw_8 with ⟨j_9, hj_10, rfl, rfl⟩ | ⟨rfl, h_12⟩
    · skip
      refine qq_as (v := .ref (ya j_9)) rfl ?_
      refine lv_astore (lv' := [(5, .ref (ya j_9)), (4, .ref (ya j_3)), (0, .ref h0), (1, .int (nI j_3)), (2, .int (nI j_9)), (3, .int z)]) hx hb dX11_next_18 hl (by decide) rfl (fun ls hl => ?_)
      refine lv_aload_n hx hb dX11_next_20 rfl (lv_at hl 2 rfl) ?_
      refine va_get (D := (dC, dI)) (ci := 13) (v := .ref sc) (C := RX11) (T := TX11) (N := 7) hx hb hts kc_xNext_0 hown hK hP 0 rfl rfl 0 (by decide) (hts (.fieldLink RX11 14 "MistHeaps" "scene" "LMistHeaps$Scene;") kc_xNext_1) (fun _ h9 => h9) rfl dX11_next_21 ?_
      refine lv_iload_n hx hb dX11_next_24 rfl (lv_at hl 5 rfl) ?_
      have hPc := hP.sub (ws' := [(zo10ririliiriririr sc aTp (nI ts) aHl (nI nh) ed mi sn aHs (nI n) aWk (nI wz) aBk (nI bz) aFc), (zaR aHs cHs 8 fHs)]) [1, 2] rfl
      have hKc := hK.sub (tys' := [(cHs, .object "MistHeaps$Heap")]) [0] rfl
      refine va_csq (va_runV (As := [.int z]) (rest := []) ⟨hx, hb, hml, hown, hts⟩ (c_heapAt l dC dI sc aTp aHl aHs aWk aBk aFc ts nh n wz bz mi sn z ed cHs fHs ya (zhs) (hn8)) (cwV 1 hts gX11_next_X8_heapAt rfl rfl rfl hd_yX8_heapAt ⟨Nat.le_of_ble_eq_true rfl, Nat.le_of_ble_eq_true rfl⟩) ⟨fun a U g mk q => by obtain ⟨q0, qP, qK⟩ := q; exact ⟨q0, qP, va_K.moved (u := U) (U := U.calling g mk a) (Vm.Alike.refl U.vm) qK⟩, va_recv hK hP (ci := 10) (q := (RX8, TX8, 14)) (q0 := 1) rfl rfl, fun U hU hW => ⟨rfl, by rw [hU]; exact hPc, va_K.moved hW.alike hKc⟩⟩ rfl rfl hl.1 rfl (lv_room (Nat.le_of_ble_eq_true rfl)) dX11_next_25 ⟨Nat.le_of_ble_eq_true rfl, Nat.le_of_ble_eq_true rfl⟩).run (fun r_13 hw_14 => ?_)
      rcases hw_14 with ⟨j_15, hj_16, rfl, rfl⟩ | ⟨rfl, h_18⟩
      · skip
        refine qq_as (v := .ref (ya j_15)) rfl ?_
        refine lv_astore (lv' := [(6, .ref (ya j_15)), (5, .ref (ya j_9)), (4, .ref (ya j_3)), (0, .ref h0), (1, .int (nI j_3)), (2, .int (nI j_9)), (3, .int (nI j_15))]) hx hb dX11_next_28 hl (by decide) rfl (fun ls hl => ?_)
        refine lv_aload hx hb dX11_next_30 (lv_at hl 2 rfl) ?_
        refine lv_ifnull hx hb dX11_next_32 ?_
        refine lv_aload hx hb dX11_next_35 (lv_at hl 1 rfl) ?_
        refine lv_ifnull hx hb dX11_next_37 ?_
        refine lv_aload hx hb dX11_next_40 (lv_at hl 0 rfl) ?_
        refine lv_ifnonnull (tgt := 47) hx hb dX11_next_42 (by decide) ?_
        refine lv_iconst (v := 3) hx hb dX11_next_47 (by decide) ?_
        refine lv_aload hx hb dX11_next_48 (lv_at hl 0 rfl) ?_
        refine va_hget3 (v := .int (yc j_15)) hx hb hts kc_xNext_3 hown (hH_ j_15 (by omega)).1 (hH_ j_15 (by omega)).2 hS (hts (.fieldLink RX11 124 "MistHeaps$Heap" "cell" "I") kc_xNext_2) dX11_next_50 rfl ?_
        refine vp_callSi (va_runS (As := [.int (yc j_15)]) (rest := [.int 3]) ⟨hx, hb, hml, hown, hts⟩ (c_rowOf l dC dI (yc j_15)) (va_cwS 1 hts gX11_next_X11_rowOf rfl rfl rfl hd_yX11_rowOf.2 ⟨Nat.le_of_ble_eq_true rfl, Nat.le_of_ble_eq_true rfl⟩) ⟨fun a U g mk q => ⟨q.1, trivial⟩, fun U hU hW => ⟨rfl, trivial⟩⟩ rfl rfl hl.1 rfl (lv_room (Nat.le_of_ble_eq_true rfl)) dX11_next_53 ⟨Nat.le_of_ble_eq_true rfl, Nat.le_of_ble_eq_true rfl⟩).run (fun r_19 hw_20 => ?_)
        obtain rfl := hw_20
        refine lv_imul hx hb dX11_next_56 ?_
        refine lv_iconst (v := 3) hx hb dX11_next_57 (by decide) ?_
        refine lv_aload hx hb dX11_next_58 (lv_at hl 1 rfl) ?_
        refine va_hget3 (v := .int (yc j_9)) hx hb hts kc_xNext_3 hown (hH_ j_9 (by omega)).1 (hH_ j_9 (by omega)).2 hS (hts (.fieldLink RX11 124 "MistHeaps$Heap" "cell" "I") kc_xNext_2) dX11_next_60 rfl ?_
        refine vp_callSi (va_runS (As := [.int (yc j_9)]) (rest := [.int 3, .int (3 * ((yc j_15) / 6))]) ⟨hx, hb, hml, hown, hts⟩ (c_rowOf l dC dI (yc j_9)) (va_cwS 1 hts gX11_next_X11_rowOf rfl rfl rfl hd_yX11_rowOf.2 ⟨Nat.le_of_ble_eq_true rfl, Nat.le_of_ble_eq_true rfl⟩) ⟨fun a U g mk q => ⟨q.1, trivial⟩, fun U hU hW => ⟨rfl, trivial⟩⟩ rfl rfl hl.1 rfl (lv_room (Nat.le_of_ble_eq_true rfl)) dX11_next_63 ⟨Nat.le_of_ble_eq_true rfl, Nat.le_of_ble_eq_true rfl⟩).run (fun r_21 hw_22 => ?_)
        obtain rfl := hw_22
        refine lv_imul hx hb dX11_next_66 ?_
        refine lv_isub hx hb dX11_next_67 ?_
        refine lv_aload hx hb dX11_next_68 (lv_at hl 2 rfl) ?_
        refine va_hget3 (v := .int (yc j_3)) hx hb hts kc_xNext_3 hown (hH_ j_3 (by omega)).1 (hH_ j_3 (by omega)).2 hS (hts (.fieldLink RX11 124 "MistHeaps$Heap" "cell" "I") kc_xNext_2) dX11_next_70 rfl ?_
        refine vp_callSi (va_runS (As := [.int (yc j_3)]) (rest := [.int ((3 * ((yc j_15) / 6)) - (3 * ((yc j_9) / 6)))]) ⟨hx, hb, hml, hown, hts⟩ (c_rowOf l dC dI (yc j_3)) (va_cwS 1 hts gX11_next_X11_rowOf rfl rfl rfl hd_yX11_rowOf.2 ⟨Nat.le_of_ble_eq_true rfl, Nat.le_of_ble_eq_true rfl⟩) ⟨fun a U g mk q => ⟨q.1, trivial⟩, fun U hU hW => ⟨rfl, trivial⟩⟩ rfl rfl hl.1 rfl (lv_room (Nat.le_of_ble_eq_true rfl)) dX11_next_73 ⟨Nat.le_of_ble_eq_true rfl, Nat.le_of_ble_eq_true rfl⟩).run (fun r_23 hw_24 => ?_)
        obtain rfl := hw_24
        refine lv_iadd hx hb dX11_next_76 ?_
        refine lv_istore (lv' := [(7, .int (((3 * ((yc j_15) / 6)) - (3 * ((yc j_9) / 6))) + ((yc j_3) / 6))), (6, .ref (ya j_15)), (5, .ref (ya j_9)), (4, .ref (ya j_3)), (0, .ref h0), (1, .int (nI j_3)), (2, .int (nI j_9)), (3, .int (nI j_15))]) hx hb dX11_next_77 hl (by decide) rfl (fun ls hl => ?_)
        refine lv_iconst (v := 3) hx hb dX11_next_79 (by decide) ?_
        refine lv_aload hx hb dX11_next_80 (lv_at hl 1 rfl) ?_
        refine va_hget3 (v := .int (yc j_15)) hx hb hts kc_xNext_3 hown (hH_ j_15 (by omega)).1 (hH_ j_15 (by omega)).2 hS (hts (.fieldLink RX11 124 "MistHeaps$Heap" "cell" "I") kc_xNext_2) dX11_next_82 rfl ?_
        refine vp_callSi (va_runS (As := [.int (yc j_15)]) (rest := [.int 3]) ⟨hx, hb, hml, hown, hts⟩ (c_columnOf l dC dI (yc j_15)) (va_cwS 1 hts gX11_next_X11_columnOf rfl rfl rfl hd_yX11_columnOf.2 ⟨Nat.le_of_ble_eq_true rfl, Nat.le_of_ble_eq_true rfl⟩) ⟨fun a U g mk q => ⟨q.1, trivial⟩, fun U hU hW => ⟨rfl, trivial⟩⟩ rfl rfl hl.1 rfl (lv_room (Nat.le_of_ble_eq_true rfl)) dX11_next_85 ⟨Nat.le_of_ble_eq_true rfl, Nat.le_of_ble_eq_true rfl⟩).run (fun r_25 hw_26 => ?_)
        obtain rfl := hw_26
        refine lv_imul hx hb dX11_next_88 ?_
        refine lv_iconst (v := 3) hx hb dX11_next_89 (by decide) ?_
        refine lv_aload hx hb dX11_next_90 (lv_at hl 2 rfl) ?_
        refine va_hget3 (v := .int (yc j_9)) hx hb hts kc_xNext_3 hown (hH_ j_9 (by omega)).1 (hH_ j_9 (by omega)).2 hS (hts (.fieldLink RX11 124 "MistHeaps$Heap" "cell" "I") kc_xNext_2) dX11_next_92 rfl ?_
        refine vp_callSi (va_runS (As := [.int (yc j_9)]) (rest := [.int 3, .int (3 * ((yc j_15) - (yc j_15) / 6 * 6))]) ⟨hx, hb, hml, hown, hts⟩ (c_columnOf l dC dI (yc j_9)) (va_cwS 1 hts gX11_next_X11_columnOf rfl rfl rfl hd_yX11_columnOf.2 ⟨Nat.le_of_ble_eq_true rfl, Nat.le_of_ble_eq_true rfl⟩) ⟨fun a U g mk q => ⟨q.1, trivial⟩, fun U hU hW => ⟨rfl, trivial⟩⟩ rfl rfl hl.1 rfl (lv_room (Nat.le_of_ble_eq_true rfl)) dX11_next_95 ⟨Nat.le_of_ble_eq_true rfl, Nat.le_of_ble_eq_true rfl⟩).run (fun r_27 hw_28 => ?_)
        obtain rfl := hw_28
        refine lv_imul hx hb dX11_next_98 ?_
        refine lv_isub hx hb dX11_next_99 ?_
        refine lv_aload hx hb dX11_next_100 (lv_at hl 3 rfl) ?_
        refine va_hget3 (v := .int (yc j_3)) hx hb hts kc_xNext_3 hown (hH_ j_3 (by omega)).1 (hH_ j_3 (by omega)).2 hS (hts (.fieldLink RX11 124 "MistHeaps$Heap" "cell" "I") kc_xNext_2) dX11_next_102 rfl ?_
        refine vp_callSi (va_runS (As := [.int (yc j_3)]) (rest := [.int ((3 * ((yc j_15) - (yc j_15) / 6 * 6)) - (3 * ((yc j_9) - (yc j_9) / 6 * 6)))]) ⟨hx, hb, hml, hown, hts⟩ (c_columnOf l dC dI (yc j_3)) (va_cwS 1 hts gX11_next_X11_columnOf rfl rfl rfl hd_yX11_columnOf.2 ⟨Nat.le_of_ble_eq_true rfl, Nat.le_of_ble_eq_true rfl⟩) ⟨fun a U g mk q => ⟨q.1, trivial⟩, fun U hU hW => ⟨rfl, trivial⟩⟩ rfl rfl hl.1 rfl (lv_room (Nat.le_of_ble_eq_true rfl)) dX11_next_105 ⟨Nat.le_of_ble_eq_true rfl, Nat.le_of_ble_eq_true rfl⟩).run (fun r_29 hw_30 => ?_)
        obtain rfl := hw_30
        refine lv_iadd hx hb dX11_next_108 ?_
        refine lv_istore (lv' := [(8, .int (((3 * ((yc j_15) - (yc j_15) / 6 * 6)) - (3 * ((yc j_9) - (yc j_9) / 6 * 6))) + ((yc j_3) - (yc j_3) / 6 * 6))), (7, .int (((3 * ((yc j_15) / 6)) - (3 * ((yc j_9) / 6))) + ((yc j_3) / 6))), (6, .ref (ya j_15)), (5, .ref (ya j_9)), (4, .ref (ya j_3)), (0, .ref h0), (1, .int (nI j_3)), (2, .int (nI j_9)), (3, .int (nI j_15))]) hx hb dX11_next_109 hl (by decide) rfl (fun ls hl => ?_)
        refine lv_iload hx hb dX11_next_111 (lv_at hl 1 rfl) ?_
        refine lv_iload hx hb dX11_next_113 (lv_at hl 0 rfl) ?_
        refine vp_callSi (va_runS (As := [.int (((3 * ((yc j_15) / 6)) - (3 * ((yc j_9) / 6))) + ((yc j_3) / 6)), .int (((3 * ((yc j_15) - (yc j_15) / 6 * 6)) - (3 * ((yc j_9) - (yc j_9) / 6 * 6))) + ((yc j_3) - (yc j_3) / 6 * 6))]) (rest := []) ⟨hx, hb, hml, hown, hts⟩ (c_onHill l dC dI (((3 * ((yc j_15) / 6)) - (3 * ((yc j_9) / 6))) + ((yc j_3) / 6)) (((3 * ((yc j_15) - (yc j_15) / 6 * 6)) - (3 * ((yc j_9) - (yc j_9) / 6 * 6))) + ((yc j_3) - (yc j_3) / 6 * 6))) (va_cwS 2 hts gX11_next_X11_isOnHill rfl rfl rfl hd_yX11_isOnHill.2 ⟨Nat.le_of_ble_eq_true rfl, Nat.le_of_ble_eq_true rfl⟩) ⟨fun a U g mk q => ⟨q.1, trivial⟩, fun U hU hW => ⟨rfl, trivial⟩⟩ rfl rfl hl.1 rfl (lv_room (Nat.le_of_ble_eq_true rfl)) dX11_next_115 ⟨Nat.le_of_ble_eq_true rfl, Nat.le_of_ble_eq_true rfl⟩).run (fun r_31 hw_32 => ?_)
        rcases hw_32 with ⟨rfl, a, b, ga, gb, ea, eb⟩ | ⟨rfl, hoff⟩
        · skip
          refine lv_if_eq (tgt := 132) hx hb dX11_next_118 (by decide) (fun c_33 => absurd c_33 (by decide)) (fun _ => ?_)
          refine lv_iload hx hb dX11_next_121 (lv_at hl 1 rfl) ?_
          refine lv_bipush (v := 6) hx hb dX11_next_123 (by decide) ?_
          refine lv_imul hx hb dX11_next_125 ?_
          refine lv_iload hx hb dX11_next_126 (lv_at hl 0 rfl) ?_
          refine lv_iadd hx hb dX11_next_128 ?_
          refine lv_goto (tgt := 134) hx hb dX11_next_129 (by decide) ?_
          rw [hQ]
          exact W.iret (v := ((((3 * ((yc j_15) / 6)) - (3 * ((yc j_9) / 6))) + ((yc j_3) / 6)) * 6) + (((3 * ((yc j_15) - (yc j_15) / 6 * 6)) - (3 * ((yc j_9) - (yc j_9) / 6 * 6))) + ((yc j_3) - (yc j_3) / 6 * 6))) hx hb hr (fun tQ htQ hWQ => ⟨((((3 * ((yc j_15) / 6)) - (3 * ((yc j_9) / 6))) + ((yc j_3) / 6)) * 6) + (((3 * ((yc j_15) - (yc j_15) / 6 * 6)) - (3 * ((yc j_9) - (yc j_9) / 6 * 6))) + ((yc j_3) - (yc j_3) / 6 * 6)), rfl, nx_on hn8 (by omega) (by omega) (by omega) (by rw [show nxW _ _ _ = nI a from ea]; exact nI_pos (by omega)) (by rw [show nxW _ _ _ = nI a from ea]; exact nI_nlt (a := 5) (by omega) (by omega)) (by rw [show nxL _ _ _ = nI b from eb]; exact nI_pos (by omega)) (by rw [show nxL _ _ _ = nI b from eb]; exact nI_nlt (a := 5) (by omega) (by omega)), by rw [htQ]⟩) (fun q hq => absurd hq List.not_mem_nil) dX11_next_134
        · skip
          refine lv_if_eq (tgt := 132) hx hb dX11_next_118 (by decide) (fun _ => ?_) (fun c_34 => absurd c_34 (by decide))
          refine lv_bipush (v := (-5)) hx hb dX11_next_132 (by decide) ?_
          rw [hQ]
          exact W.iret (v := (-5)) hx hb hr (fun tQ htQ hWQ => ⟨(-5), rfl, nx_off hn8 (by omega) (by omega) (by omega) (hill_off hoff), by rw [htQ]⟩) (fun q hq => absurd hq List.not_mem_nil) dX11_next_134
      · skip
        refine qq_as (v := .null) rfl ?_
        refine lv_astoreN (lv' := [(6, .null), (5, .ref (ya j_9)), (4, .ref (ya j_3)), (0, .ref h0), (1, .int (nI j_3)), (2, .int (nI j_9)), (3, .int z)]) hx hb dX11_next_28 hl (by decide) rfl (fun ls hl => ?_)
        refine lv_aload hx hb dX11_next_30 (lv_at hl 2 rfl) ?_
        refine lv_ifnull hx hb dX11_next_32 ?_
        refine lv_aload hx hb dX11_next_35 (lv_at hl 1 rfl) ?_
        refine lv_ifnull hx hb dX11_next_37 ?_
        refine lv_aloadN hx hb dX11_next_40 (lv_at hl 0 rfl) ?_
        refine lv_ifnonnullN hx hb dX11_next_42 ?_
        refine lv_iconst (v := (-1)) hx hb dX11_next_45 (by decide) ?_
        rw [hQ]
        exact W.iret (v := (-1)) hx hb hr (fun tQ htQ hWQ => ⟨(-1), rfl, by first | exact nx_no1 (by assumption) | exact nx_no2 (by assumption) | exact nx_no3 (by assumption), by rw [htQ]⟩) (fun q hq => absurd hq List.not_mem_nil) dX11_next_46
    · skip
      refine qq_as (v := .null) rfl ?_
      refine lv_astoreN (lv' := [(5, .null), (4, .ref (ya j_3)), (0, .ref h0), (1, .int (nI j_3)), (2, .int y), (3, .int z)]) hx hb dX11_next_18 hl (by decide) rfl (fun ls hl => ?_)
      refine lv_aload_n hx hb dX11_next_20 rfl (lv_at hl 2 rfl) ?_
      refine va_get (D := (dC, dI)) (ci := 13) (v := .ref sc) (C := RX11) (T := TX11) (N := 7) hx hb hts kc_xNext_0 hown hK hP 0 rfl rfl 0 (by decide) (hts (.fieldLink RX11 14 "MistHeaps" "scene" "LMistHeaps$Scene;") kc_xNext_1) (fun _ h9 => h9) rfl dX11_next_21 ?_
      refine lv_iload_n hx hb dX11_next_24 rfl (lv_at hl 5 rfl) ?_
      have hPc := hP.sub (ws' := [(zo10ririliiriririr sc aTp (nI ts) aHl (nI nh) ed mi sn aHs (nI n) aWk (nI wz) aBk (nI bz) aFc), (zaR aHs cHs 8 fHs)]) [1, 2] rfl
      have hKc := hK.sub (tys' := [(cHs, .object "MistHeaps$Heap")]) [0] rfl
      refine va_csq (va_runV (As := [.int z]) (rest := []) ⟨hx, hb, hml, hown, hts⟩ (c_heapAt l dC dI sc aTp aHl aHs aWk aBk aFc ts nh n wz bz mi sn z ed cHs fHs ya (zhs) (hn8)) (cwV 1 hts gX11_next_X8_heapAt rfl rfl rfl hd_yX8_heapAt ⟨Nat.le_of_ble_eq_true rfl, Nat.le_of_ble_eq_true rfl⟩) ⟨fun a U g mk q => by obtain ⟨q0, qP, qK⟩ := q; exact ⟨q0, qP, va_K.moved (u := U) (U := U.calling g mk a) (Vm.Alike.refl U.vm) qK⟩, va_recv hK hP (ci := 10) (q := (RX8, TX8, 14)) (q0 := 1) rfl rfl, fun U hU hW => ⟨rfl, by rw [hU]; exact hPc, va_K.moved hW.alike hKc⟩⟩ rfl rfl hl.1 rfl (lv_room (Nat.le_of_ble_eq_true rfl)) dX11_next_25 ⟨Nat.le_of_ble_eq_true rfl, Nat.le_of_ble_eq_true rfl⟩).run (fun r_35 hw_36 => ?_)
      rcases hw_36 with ⟨j_37, hj_38, rfl, rfl⟩ | ⟨rfl, h_40⟩
      · skip
        refine qq_as (v := .ref (ya j_37)) rfl ?_
        refine lv_astore (lv' := [(6, .ref (ya j_37)), (5, .null), (4, .ref (ya j_3)), (0, .ref h0), (1, .int (nI j_3)), (2, .int y), (3, .int (nI j_37))]) hx hb dX11_next_28 hl (by decide) rfl (fun ls hl => ?_)
        refine lv_aload hx hb dX11_next_30 (lv_at hl 2 rfl) ?_
        refine lv_ifnull hx hb dX11_next_32 ?_
        refine lv_aloadN hx hb dX11_next_35 (lv_at hl 1 rfl) ?_
        refine lv_ifnullN (tgt := 45) hx hb dX11_next_37 (by decide) ?_
        refine lv_iconst (v := (-1)) hx hb dX11_next_45 (by decide) ?_
        rw [hQ]
        exact W.iret (v := (-1)) hx hb hr (fun tQ htQ hWQ => ⟨(-1), rfl, by first | exact nx_no1 (by assumption) | exact nx_no2 (by assumption) | exact nx_no3 (by assumption), by rw [htQ]⟩) (fun q hq => absurd hq List.not_mem_nil) dX11_next_46
      · skip
        refine qq_as (v := .null) rfl ?_
        refine lv_astoreN (lv' := [(6, .null), (5, .null), (4, .ref (ya j_3)), (0, .ref h0), (1, .int (nI j_3)), (2, .int y), (3, .int z)]) hx hb dX11_next_28 hl (by decide) rfl (fun ls hl => ?_)
        refine lv_aload hx hb dX11_next_30 (lv_at hl 2 rfl) ?_
        refine lv_ifnull hx hb dX11_next_32 ?_
        refine lv_aloadN hx hb dX11_next_35 (lv_at hl 1 rfl) ?_
        refine lv_ifnullN (tgt := 45) hx hb dX11_next_37 (by decide) ?_
        refine lv_iconst (v := (-1)) hx hb dX11_next_45 (by decide) ?_
        rw [hQ]
        exact W.iret (v := (-1)) hx hb hr (fun tQ htQ hWQ => ⟨(-1), rfl, by first | exact nx_no1 (by assumption) | exact nx_no2 (by assumption) | exact nx_no3 (by assumption), by rw [htQ]⟩) (fun q hq => absurd hq List.not_mem_nil) dX11_next_46
  · skip
    refine qq_as (v := .null) rfl ?_
    refine lv_astoreN (lv' := [(4, .null), (0, .ref h0), (1, .int x), (2, .int y), (3, .int z)]) hx hb dX11_next_8 hl (by decide) rfl (fun ls hl => ?_)
    refine lv_aload_n hx hb dX11_next_10 rfl (lv_at hl 1 rfl) ?_
    refine va_get (D := (dC, dI)) (ci := 13) (v := .ref sc) (C := RX11) (T := TX11) (N := 7) hx hb hts kc_xNext_0 hown hK hP 0 rfl rfl 0 (by decide) (hts (.fieldLink RX11 14 "MistHeaps" "scene" "LMistHeaps$Scene;") kc_xNext_1) (fun _ h9 => h9) rfl dX11_next_11 ?_
    refine lv_iload_n hx hb dX11_next_14 rfl (lv_at hl 3 rfl) ?_
    have hPc := hP.sub (ws' := [(zo10ririliiriririr sc aTp (nI ts) aHl (nI nh) ed mi sn aHs (nI n) aWk (nI wz) aBk (nI bz) aFc), (zaR aHs cHs 8 fHs)]) [1, 2] rfl
    have hKc := hK.sub (tys' := [(cHs, .object "MistHeaps$Heap")]) [0] rfl
    refine va_csq (va_runV (As := [.int y]) (rest := []) ⟨hx, hb, hml, hown, hts⟩ (c_heapAt l dC dI sc aTp aHl aHs aWk aBk aFc ts nh n wz bz mi sn y ed cHs fHs ya (zhs) (hn8)) (cwV 1 hts gX11_next_X8_heapAt rfl rfl rfl hd_yX8_heapAt ⟨Nat.le_of_ble_eq_true rfl, Nat.le_of_ble_eq_true rfl⟩) ⟨fun a U g mk q => by obtain ⟨q0, qP, qK⟩ := q; exact ⟨q0, qP, va_K.moved (u := U) (U := U.calling g mk a) (Vm.Alike.refl U.vm) qK⟩, va_recv hK hP (ci := 10) (q := (RX8, TX8, 14)) (q0 := 1) rfl rfl, fun U hU hW => ⟨rfl, by rw [hU]; exact hPc, va_K.moved hW.alike hKc⟩⟩ rfl rfl hl.1 rfl (lv_room (Nat.le_of_ble_eq_true rfl)) dX11_next_15 ⟨Nat.le_of_ble_eq_true rfl, Nat.le_of_ble_eq_true rfl⟩).run (fun r_41 hw_42 => ?_)
    rcases hw_42 with ⟨j_43, hj_44, rfl, rfl⟩ | ⟨rfl, h_46⟩
    · skip
      refine qq_as (v := .ref (ya j_43)) rfl ?_
      refine lv_astore (lv' := [(5, .ref (ya j_43)), (4, .null), (0, .ref h0), (1, .int x), (2, .int (nI j_43)), (3, .int z)]) hx hb dX11_next_18 hl (by decide) rfl (fun ls hl => ?_)
      refine lv_aload_n hx hb dX11_next_20 rfl (lv_at hl 2 rfl) ?_
      refine va_get (D := (dC, dI)) (ci := 13) (v := .ref sc) (C := RX11) (T := TX11) (N := 7) hx hb hts kc_xNext_0 hown hK hP 0 rfl rfl 0 (by decide) (hts (.fieldLink RX11 14 "MistHeaps" "scene" "LMistHeaps$Scene;") kc_xNext_1) (fun _ h9 => h9) rfl dX11_next_21 ?_
      refine lv_iload_n hx hb dX11_next_24 rfl (lv_at hl 5 rfl) ?_
      have hPc := hP.sub (ws' := [(zo10ririliiriririr sc aTp (nI ts) aHl (nI nh) ed mi sn aHs (nI n) aWk (nI wz) aBk (nI bz) aFc), (zaR aHs cHs 8 fHs)]) [1, 2] rfl
      have hKc := hK.sub (tys' := [(cHs, .object "MistHeaps$Heap")]) [0] rfl
      refine va_csq (va_runV (As := [.int z]) (rest := []) ⟨hx, hb, hml, hown, hts⟩ (c_heapAt l dC dI sc aTp aHl aHs aWk aBk aFc ts nh n wz bz mi sn z ed cHs fHs ya (zhs) (hn8)) (cwV 1 hts gX11_next_X8_heapAt rfl rfl rfl hd_yX8_heapAt ⟨Nat.le_of_ble_eq_true rfl, Nat.le_of_ble_eq_true rfl⟩) ⟨fun a U g mk q => by obtain ⟨q0, qP, qK⟩ := q; exact ⟨q0, qP, va_K.moved (u := U) (U := U.calling g mk a) (Vm.Alike.refl U.vm) qK⟩, va_recv hK hP (ci := 10) (q := (RX8, TX8, 14)) (q0 := 1) rfl rfl, fun U hU hW => ⟨rfl, by rw [hU]; exact hPc, va_K.moved hW.alike hKc⟩⟩ rfl rfl hl.1 rfl (lv_room (Nat.le_of_ble_eq_true rfl)) dX11_next_25 ⟨Nat.le_of_ble_eq_true rfl, Nat.le_of_ble_eq_true rfl⟩).run (fun r_47 hw_48 => ?_)
      rcases hw_48 with ⟨j_49, hj_50, rfl, rfl⟩ | ⟨rfl, h_52⟩
      · skip
        refine qq_as (v := .ref (ya j_49)) rfl ?_
        refine lv_astore (lv' := [(6, .ref (ya j_49)), (5, .ref (ya j_43)), (4, .null), (0, .ref h0), (1, .int x), (2, .int (nI j_43)), (3, .int (nI j_49))]) hx hb dX11_next_28 hl (by decide) rfl (fun ls hl => ?_)
        refine lv_aloadN hx hb dX11_next_30 (lv_at hl 2 rfl) ?_
        refine lv_ifnullN (tgt := 45) hx hb dX11_next_32 (by decide) ?_
        refine lv_iconst (v := (-1)) hx hb dX11_next_45 (by decide) ?_
        rw [hQ]
        exact W.iret (v := (-1)) hx hb hr (fun tQ htQ hWQ => ⟨(-1), rfl, by first | exact nx_no1 (by assumption) | exact nx_no2 (by assumption) | exact nx_no3 (by assumption), by rw [htQ]⟩) (fun q hq => absurd hq List.not_mem_nil) dX11_next_46
      · skip
        refine qq_as (v := .null) rfl ?_
        refine lv_astoreN (lv' := [(6, .null), (5, .ref (ya j_43)), (4, .null), (0, .ref h0), (1, .int x), (2, .int (nI j_43)), (3, .int z)]) hx hb dX11_next_28 hl (by decide) rfl (fun ls hl => ?_)
        refine lv_aloadN hx hb dX11_next_30 (lv_at hl 2 rfl) ?_
        refine lv_ifnullN (tgt := 45) hx hb dX11_next_32 (by decide) ?_
        refine lv_iconst (v := (-1)) hx hb dX11_next_45 (by decide) ?_
        rw [hQ]
        exact W.iret (v := (-1)) hx hb hr (fun tQ htQ hWQ => ⟨(-1), rfl, by first | exact nx_no1 (by assumption) | exact nx_no2 (by assumption) | exact nx_no3 (by assumption), by rw [htQ]⟩) (fun q hq => absurd hq List.not_mem_nil) dX11_next_46
    · skip
      refine qq_as (v := .null) rfl ?_
      refine lv_astoreN (lv' := [(5, .null), (4, .null), (0, .ref h0), (1, .int x), (2, .int y), (3, .int z)]) hx hb dX11_next_18 hl (by decide) rfl (fun ls hl => ?_)
      refine lv_aload_n hx hb dX11_next_20 rfl (lv_at hl 2 rfl) ?_
      refine va_get (D := (dC, dI)) (ci := 13) (v := .ref sc) (C := RX11) (T := TX11) (N := 7) hx hb hts kc_xNext_0 hown hK hP 0 rfl rfl 0 (by decide) (hts (.fieldLink RX11 14 "MistHeaps" "scene" "LMistHeaps$Scene;") kc_xNext_1) (fun _ h9 => h9) rfl dX11_next_21 ?_
      refine lv_iload_n hx hb dX11_next_24 rfl (lv_at hl 5 rfl) ?_
      have hPc := hP.sub (ws' := [(zo10ririliiriririr sc aTp (nI ts) aHl (nI nh) ed mi sn aHs (nI n) aWk (nI wz) aBk (nI bz) aFc), (zaR aHs cHs 8 fHs)]) [1, 2] rfl
      have hKc := hK.sub (tys' := [(cHs, .object "MistHeaps$Heap")]) [0] rfl
      refine va_csq (va_runV (As := [.int z]) (rest := []) ⟨hx, hb, hml, hown, hts⟩ (c_heapAt l dC dI sc aTp aHl aHs aWk aBk aFc ts nh n wz bz mi sn z ed cHs fHs ya (zhs) (hn8)) (cwV 1 hts gX11_next_X8_heapAt rfl rfl rfl hd_yX8_heapAt ⟨Nat.le_of_ble_eq_true rfl, Nat.le_of_ble_eq_true rfl⟩) ⟨fun a U g mk q => by obtain ⟨q0, qP, qK⟩ := q; exact ⟨q0, qP, va_K.moved (u := U) (U := U.calling g mk a) (Vm.Alike.refl U.vm) qK⟩, va_recv hK hP (ci := 10) (q := (RX8, TX8, 14)) (q0 := 1) rfl rfl, fun U hU hW => ⟨rfl, by rw [hU]; exact hPc, va_K.moved hW.alike hKc⟩⟩ rfl rfl hl.1 rfl (lv_room (Nat.le_of_ble_eq_true rfl)) dX11_next_25 ⟨Nat.le_of_ble_eq_true rfl, Nat.le_of_ble_eq_true rfl⟩).run (fun r_53 hw_54 => ?_)
      rcases hw_54 with ⟨j_55, hj_56, rfl, rfl⟩ | ⟨rfl, h_58⟩
      · skip
        refine qq_as (v := .ref (ya j_55)) rfl ?_
        refine lv_astore (lv' := [(6, .ref (ya j_55)), (5, .null), (4, .null), (0, .ref h0), (1, .int x), (2, .int y), (3, .int (nI j_55))]) hx hb dX11_next_28 hl (by decide) rfl (fun ls hl => ?_)
        refine lv_aloadN hx hb dX11_next_30 (lv_at hl 2 rfl) ?_
        refine lv_ifnullN (tgt := 45) hx hb dX11_next_32 (by decide) ?_
        refine lv_iconst (v := (-1)) hx hb dX11_next_45 (by decide) ?_
        rw [hQ]
        exact W.iret (v := (-1)) hx hb hr (fun tQ htQ hWQ => ⟨(-1), rfl, by first | exact nx_no1 (by assumption) | exact nx_no2 (by assumption) | exact nx_no3 (by assumption), by rw [htQ]⟩) (fun q hq => absurd hq List.not_mem_nil) dX11_next_46
      · skip
        refine qq_as (v := .null) rfl ?_
        refine lv_astoreN (lv' := [(6, .null), (5, .null), (4, .null), (0, .ref h0), (1, .int x), (2, .int y), (3, .int z)]) hx hb dX11_next_28 hl (by decide) rfl (fun ls hl => ?_)
        refine lv_aloadN hx hb dX11_next_30 (lv_at hl 2 rfl) ?_
        refine lv_ifnullN (tgt := 45) hx hb dX11_next_32 (by decide) ?_
        refine lv_iconst (v := (-1)) hx hb dX11_next_45 (by decide) ?_
        rw [hQ]
        exact W.iret (v := (-1)) hx hb hr (fun tQ htQ hWQ => ⟨(-1), rfl, by first | exact nx_no1 (by assumption) | exact nx_no2 (by assumption) | exact nx_no3 (by assumption), by rw [htQ]⟩) (fun q hq => absurd hq List.not_mem_nil) dX11_next_46

theorem kd7 {k : Int32} (h : ∃ k7 : Nat, k7 < 7 ∧ k = nI k7) : k = 0 ∨ k = 1 ∨ k = 2 ∨ k = 3 ∨ k = 4 ∨ k = 5 ∨ k = 6 := by
  obtain ⟨j, hj, rfl⟩ := h
  exact seven (nI_pos (by omega)) (fun q => absurd ((nI_leI (a := 7) (b := j) (by omega) (by omega)).mp q) (by omega))

theorem kc_isOfKind_X3_0 : (.fieldLink RX3 9 "MistHeaps$Heap" "kind" "I" : Cond) ∈ wsX3_isOfKind := kc_of 228 rfl rfl rfl
theorem kc_isOfKind_X3_1 : ∀ w ∈ wsX30, w ∈ wsX3_isOfKind := fun w h => List.mem_cons_of_mem _ (gin_wsX30 w h)
set_option maxHeartbeats 4000000 in
set_option maxRecDepth 100000 in
theorem c_isOfKind_X3 (l : Launch) (dC : Nat → ClassId) (dI : Nat → Nat → Nat) (kA : Nat)  (i0 : Nat) (sk : Int32) (sv : Int32) (scl : Int32) (x : Int32) (a0 : Nat) (zk7 : ∃ k7 : Nat, k7 < 7 ∧ sk = nI k7) : Met l yX3_isOfKind wsX3_isOfKind ({ frames := 0, cells := 0, slots := 0, locals := 0 } : Room) (va_Pc [.ref a0, .int x] (fun U => Gn kA (fun _ => False) U ∧ Fz dC dI [(zo5iiii a0 sk (nI i0) sv scl)] [] (fun _ => False) U)) (vp_Si (fun r => (r = 1 ∧ isU sk x) ∨ (r = 0 ∧ ¬ isU sk x))) 0 0 (fun _ => False) := by
  refine met_ofQ (cc := cX3_isOfKind) (maxL := 4) (ret := (some .boolean)) (by decide) rfl ?_
  intro p e s m args below meth c s₁ Q B hml hv hQ
  obtain ⟨rfl, hN_, hZ⟩ := hv
  have hx := B.exec
  have hb := B.bytes
  have hr := B.returns
  have hts := atoms_spec (ws := wsX3_isOfKind) B.pre
  have hown : s.vm.findClass RX3 = some m.cls := findClass_of_methodNamed B.named
  have hlocks := B.notSynchronized
  obtain ⟨A, hAe⟩ : ∃ A : Nat → Prop, A = fun _ => False := ⟨_, rfl⟩
  rw [← hAe] at hQ hN_ hZ
  have hS : va_S A s.heap s.heap [] := va_S.rf
  have hl := lv_entry [.ref a0, .int x] (n := 4) (Nat.le_of_ble_eq_true rfl)
  rw [lg_entry_eq]
  generalize (lg_sl [.ref a0, .int x] ++ List.replicate (4 - (lg_sl [.ref a0, .int x]).length) Slot.unset).toArray = ls at hl ⊢
  generalize hag : ([.ref a0, .int x] : List Value).toArray = args at hts hQ ⊢
  have hl : lv_has ls 4 [(0, .ref a0), (1, .int x)] := hl
  rcases kd7 zk7 with rfl | rfl | rfl | rfl | rfl | rfl | rfl
  · skip
    refine lv_aload_n hx hb dX3_isOfKind_0 rfl (lv_at hl 0 rfl) ?_
    refine va_get (D := (dC, dI)) (ci := 5) (v := .int 0) (C := RX3) (T := TX3) (N := 4) hx hb hts kc_isOfKind_X3_1 hown hZ.2.1 (hZ.P hS) 0 rfl rfl 0 (by decide) (hts (.fieldLink RX3 9 "MistHeaps$Heap" "kind" "I") kc_isOfKind_X3_0) (fun _ h9 => h9) rfl dX3_isOfKind_1 ?_
    refine lv_istore_n (lv' := [(2, .int 0), (0, .ref a0), (1, .int x)]) hx hb dX3_isOfKind_4 rfl hl (by decide) rfl (fun ls hl => ?_)
    refine lv_iconst (v := 0) hx hb dX3_isOfKind_5 (by decide) ?_
    refine lv_istore_n (lv' := [(3, .int 0), (2, .int 0), (0, .ref a0), (1, .int x)]) hx hb dX3_isOfKind_6 rfl hl (by decide) rfl (fun ls hl => ?_)
    refine lv_iload_n hx hb dX3_isOfKind_7 rfl (lv_at hl 0 rfl) ?_
    refine lv_bipush (v := 7) hx hb dX3_isOfKind_8 (by decide) ?_
    refine lv_icmp_ge (tgt := 36) hx hb dX3_isOfKind_10 (by decide) (fun c_1 => absurd c_1 (by decide)) (fun _ => ?_)
    refine lv_iload_n hx hb dX3_isOfKind_13 rfl (lv_at hl 1 rfl) ?_
    refine lv_if_lt (tgt := 36) hx hb dX3_isOfKind_14 (by decide) (fun c_2 => absurd c_2 (by decide)) (fun _ => ?_)
    refine lv_iload_n hx hb dX3_isOfKind_17 rfl (lv_at hl 1 rfl) ?_
    refine lv_iload_n hx hb dX3_isOfKind_18 rfl (lv_at hl 3 rfl) ?_
    refine lv_icmp_ne (tgt := 24) hx hb dX3_isOfKind_19 (by decide) (fun c_3 => ?_) (fun c_3 => ?_)
    · skip
      refine va_getsN (C := "MistHeaps") (n := "KIND_ABOVE") (d := "[I") (v := .ref kA) hx hb hN_.2.1 hS hown (va_Nw.use rfl (hN_.1 (.fieldLinkNest RX3 24 "MistHeaps" "KIND_ABOVE" "[I" "MistHeaps") (by decide +kernel))) (fun _ h9 => h9) dX3_isOfKind_24 ?_
      refine lv_iload_n hx hb dX3_isOfKind_27 rfl (lv_at hl 1 rfl) ?_
      refine va_ti (v := .int (-1)) hx hb hN_.2.2 hS (vp_in_nI (n := 0) (N := 7) (by omega) (by omega)) rfl dX3_isOfKind_28 ?_
      refine lv_istore_n (lv' := [(2, .int (-1)), (3, .int 0), (0, .ref a0), (1, .int x)]) hx hb dX3_isOfKind_29 rfl hl (by decide) rfl (fun ls hl => ?_)
      refine lv_iinc (v := 1) (lv' := [(3, .int 1), (2, .int (-1)), (0, .ref a0), (1, .int x)]) hx hb dX3_isOfKind_30 hl (k := 1) rfl (by decide) (by decide) rfl (fun ls hl => ?_)
      refine lv_goto (tgt := 7) hx hb dX3_isOfKind_33 (by decide) ?_
      refine lv_iload_n hx hb dX3_isOfKind_7 rfl (lv_at hl 0 rfl) ?_
      refine lv_bipush (v := 7) hx hb dX3_isOfKind_8 (by decide) ?_
      refine lv_icmp_ge (tgt := 36) hx hb dX3_isOfKind_10 (by decide) (fun c_4 => absurd c_4 (by decide)) (fun _ => ?_)
      refine lv_iload_n hx hb dX3_isOfKind_13 rfl (lv_at hl 1 rfl) ?_
      refine lv_if_lt (tgt := 36) hx hb dX3_isOfKind_14 (by decide) (fun _ => ?_) (fun c_5 => absurd c_5 (by decide))
      refine lv_iconst (v := 0) hx hb dX3_isOfKind_36 (by decide) ?_
      rw [hQ]
      exact W.zret (v := 0) hx hb hr rfl (fun tQ htQ hWQ => ⟨0, rfl, Or.inr ⟨rfl, fun q => by rcases q with q9 | q9 | ⟨q9, q8⟩ | ⟨q9, q8⟩ | ⟨q9, q8⟩; exact c_3 q9.symm; exact c_3 q9.symm; exact absurd q8 (by decide); exact absurd q8 (by decide); exact absurd q8 (by decide)⟩, by rw [htQ]⟩) (fun q hq => absurd hq List.not_mem_nil) dX3_isOfKind_37
    · skip
      refine lv_iconst (v := 1) hx hb dX3_isOfKind_22 (by decide) ?_
      rw [hQ]
      exact W.zret (v := 1) hx hb hr rfl (fun tQ htQ hWQ => ⟨1, rfl, Or.inl ⟨rfl, by rw [← c_3]; decide⟩, by rw [htQ]⟩) (fun q hq => absurd hq List.not_mem_nil) dX3_isOfKind_23
  · skip
    refine lv_aload_n hx hb dX3_isOfKind_0 rfl (lv_at hl 0 rfl) ?_
    refine va_get (D := (dC, dI)) (ci := 5) (v := .int 1) (C := RX3) (T := TX3) (N := 4) hx hb hts kc_isOfKind_X3_1 hown hZ.2.1 (hZ.P hS) 0 rfl rfl 0 (by decide) (hts (.fieldLink RX3 9 "MistHeaps$Heap" "kind" "I") kc_isOfKind_X3_0) (fun _ h9 => h9) rfl dX3_isOfKind_1 ?_
    refine lv_istore_n (lv' := [(2, .int 1), (0, .ref a0), (1, .int x)]) hx hb dX3_isOfKind_4 rfl hl (by decide) rfl (fun ls hl => ?_)
    refine lv_iconst (v := 0) hx hb dX3_isOfKind_5 (by decide) ?_
    refine lv_istore_n (lv' := [(3, .int 0), (2, .int 1), (0, .ref a0), (1, .int x)]) hx hb dX3_isOfKind_6 rfl hl (by decide) rfl (fun ls hl => ?_)
    refine lv_iload_n hx hb dX3_isOfKind_7 rfl (lv_at hl 0 rfl) ?_
    refine lv_bipush (v := 7) hx hb dX3_isOfKind_8 (by decide) ?_
    refine lv_icmp_ge (tgt := 36) hx hb dX3_isOfKind_10 (by decide) (fun c_6 => absurd c_6 (by decide)) (fun _ => ?_)
    refine lv_iload_n hx hb dX3_isOfKind_13 rfl (lv_at hl 1 rfl) ?_
    refine lv_if_lt (tgt := 36) hx hb dX3_isOfKind_14 (by decide) (fun c_7 => absurd c_7 (by decide)) (fun _ => ?_)
    refine lv_iload_n hx hb dX3_isOfKind_17 rfl (lv_at hl 1 rfl) ?_
    refine lv_iload_n hx hb dX3_isOfKind_18 rfl (lv_at hl 3 rfl) ?_
    refine lv_icmp_ne (tgt := 24) hx hb dX3_isOfKind_19 (by decide) (fun c_8 => ?_) (fun c_8 => ?_)
    · skip
      refine va_getsN (C := "MistHeaps") (n := "KIND_ABOVE") (d := "[I") (v := .ref kA) hx hb hN_.2.1 hS hown (va_Nw.use rfl (hN_.1 (.fieldLinkNest RX3 24 "MistHeaps" "KIND_ABOVE" "[I" "MistHeaps") (by decide +kernel))) (fun _ h9 => h9) dX3_isOfKind_24 ?_
      refine lv_iload_n hx hb dX3_isOfKind_27 rfl (lv_at hl 1 rfl) ?_
      refine va_ti (v := .int 0) hx hb hN_.2.2 hS (vp_in_nI (n := 1) (N := 7) (by omega) (by omega)) rfl dX3_isOfKind_28 ?_
      refine lv_istore_n (lv' := [(2, .int 0), (3, .int 0), (0, .ref a0), (1, .int x)]) hx hb dX3_isOfKind_29 rfl hl (by decide) rfl (fun ls hl => ?_)
      refine lv_iinc (v := 1) (lv' := [(3, .int 1), (2, .int 0), (0, .ref a0), (1, .int x)]) hx hb dX3_isOfKind_30 hl (k := 1) rfl (by decide) (by decide) rfl (fun ls hl => ?_)
      refine lv_goto (tgt := 7) hx hb dX3_isOfKind_33 (by decide) ?_
      refine lv_iload_n hx hb dX3_isOfKind_7 rfl (lv_at hl 0 rfl) ?_
      refine lv_bipush (v := 7) hx hb dX3_isOfKind_8 (by decide) ?_
      refine lv_icmp_ge (tgt := 36) hx hb dX3_isOfKind_10 (by decide) (fun c_9 => absurd c_9 (by decide)) (fun _ => ?_)
      refine lv_iload_n hx hb dX3_isOfKind_13 rfl (lv_at hl 1 rfl) ?_
      refine lv_if_lt (tgt := 36) hx hb dX3_isOfKind_14 (by decide) (fun c_10 => absurd c_10 (by decide)) (fun _ => ?_)
      refine lv_iload_n hx hb dX3_isOfKind_17 rfl (lv_at hl 1 rfl) ?_
      refine lv_iload_n hx hb dX3_isOfKind_18 rfl (lv_at hl 3 rfl) ?_
      refine lv_icmp_ne (tgt := 24) hx hb dX3_isOfKind_19 (by decide) (fun c_11 => ?_) (fun c_11 => ?_)
      · skip
        refine va_getsN (C := "MistHeaps") (n := "KIND_ABOVE") (d := "[I") (v := .ref kA) hx hb hN_.2.1 hS hown (va_Nw.use rfl (hN_.1 (.fieldLinkNest RX3 24 "MistHeaps" "KIND_ABOVE" "[I" "MistHeaps") (by decide +kernel))) (fun _ h9 => h9) dX3_isOfKind_24 ?_
        refine lv_iload_n hx hb dX3_isOfKind_27 rfl (lv_at hl 1 rfl) ?_
        refine va_ti (v := .int (-1)) hx hb hN_.2.2 hS (vp_in_nI (n := 0) (N := 7) (by omega) (by omega)) rfl dX3_isOfKind_28 ?_
        refine lv_istore_n (lv' := [(2, .int (-1)), (3, .int 1), (0, .ref a0), (1, .int x)]) hx hb dX3_isOfKind_29 rfl hl (by decide) rfl (fun ls hl => ?_)
        refine lv_iinc (v := 2) (lv' := [(3, .int 2), (2, .int (-1)), (0, .ref a0), (1, .int x)]) hx hb dX3_isOfKind_30 hl (k := 1) rfl (by decide) (by decide) rfl (fun ls hl => ?_)
        refine lv_goto (tgt := 7) hx hb dX3_isOfKind_33 (by decide) ?_
        refine lv_iload_n hx hb dX3_isOfKind_7 rfl (lv_at hl 0 rfl) ?_
        refine lv_bipush (v := 7) hx hb dX3_isOfKind_8 (by decide) ?_
        refine lv_icmp_ge (tgt := 36) hx hb dX3_isOfKind_10 (by decide) (fun c_12 => absurd c_12 (by decide)) (fun _ => ?_)
        refine lv_iload_n hx hb dX3_isOfKind_13 rfl (lv_at hl 1 rfl) ?_
        refine lv_if_lt (tgt := 36) hx hb dX3_isOfKind_14 (by decide) (fun _ => ?_) (fun c_13 => absurd c_13 (by decide))
        refine lv_iconst (v := 0) hx hb dX3_isOfKind_36 (by decide) ?_
        rw [hQ]
        exact W.zret (v := 0) hx hb hr rfl (fun tQ htQ hWQ => ⟨0, rfl, Or.inr ⟨rfl, fun q => by rcases q with q9 | q9 | ⟨q9, q8⟩ | ⟨q9, q8⟩ | ⟨q9, q8⟩; exact c_11 q9.symm; exact c_8 q9.symm; exact absurd q8 (by decide); exact absurd q8 (by decide); exact absurd q8 (by decide)⟩, by rw [htQ]⟩) (fun q hq => absurd hq List.not_mem_nil) dX3_isOfKind_37
      · skip
        refine lv_iconst (v := 1) hx hb dX3_isOfKind_22 (by decide) ?_
        rw [hQ]
        exact W.zret (v := 1) hx hb hr rfl (fun tQ htQ hWQ => ⟨1, rfl, Or.inl ⟨rfl, by rw [← c_11]; decide⟩, by rw [htQ]⟩) (fun q hq => absurd hq List.not_mem_nil) dX3_isOfKind_23
    · skip
      refine lv_iconst (v := 1) hx hb dX3_isOfKind_22 (by decide) ?_
      rw [hQ]
      exact W.zret (v := 1) hx hb hr rfl (fun tQ htQ hWQ => ⟨1, rfl, Or.inl ⟨rfl, by rw [← c_8]; decide⟩, by rw [htQ]⟩) (fun q hq => absurd hq List.not_mem_nil) dX3_isOfKind_23
  · skip
    refine lv_aload_n hx hb dX3_isOfKind_0 rfl (lv_at hl 0 rfl) ?_
    refine va_get (D := (dC, dI)) (ci := 5) (v := .int 2) (C := RX3) (T := TX3) (N := 4) hx hb hts kc_isOfKind_X3_1 hown hZ.2.1 (hZ.P hS) 0 rfl rfl 0 (by decide) (hts (.fieldLink RX3 9 "MistHeaps$Heap" "kind" "I") kc_isOfKind_X3_0) (fun _ h9 => h9) rfl dX3_isOfKind_1 ?_
    refine lv_istore_n (lv' := [(2, .int 2), (0, .ref a0), (1, .int x)]) hx hb dX3_isOfKind_4 rfl hl (by decide) rfl (fun ls hl => ?_)
    refine lv_iconst (v := 0) hx hb dX3_isOfKind_5 (by decide) ?_
    refine lv_istore_n (lv' := [(3, .int 0), (2, .int 2), (0, .ref a0), (1, .int x)]) hx hb dX3_isOfKind_6 rfl hl (by decide) rfl (fun ls hl => ?_)
    refine lv_iload_n hx hb dX3_isOfKind_7 rfl (lv_at hl 0 rfl) ?_
    refine lv_bipush (v := 7) hx hb dX3_isOfKind_8 (by decide) ?_
    refine lv_icmp_ge (tgt := 36) hx hb dX3_isOfKind_10 (by decide) (fun c_14 => absurd c_14 (by decide)) (fun _ => ?_)
    refine lv_iload_n hx hb dX3_isOfKind_13 rfl (lv_at hl 1 rfl) ?_
    refine lv_if_lt (tgt := 36) hx hb dX3_isOfKind_14 (by decide) (fun c_15 => absurd c_15 (by decide)) (fun _ => ?_)
    refine lv_iload_n hx hb dX3_isOfKind_17 rfl (lv_at hl 1 rfl) ?_
    refine lv_iload_n hx hb dX3_isOfKind_18 rfl (lv_at hl 3 rfl) ?_
    refine lv_icmp_ne (tgt := 24) hx hb dX3_isOfKind_19 (by decide) (fun c_16 => ?_) (fun c_16 => ?_)
    · skip
      refine va_getsN (C := "MistHeaps") (n := "KIND_ABOVE") (d := "[I") (v := .ref kA) hx hb hN_.2.1 hS hown (va_Nw.use rfl (hN_.1 (.fieldLinkNest RX3 24 "MistHeaps" "KIND_ABOVE" "[I" "MistHeaps") (by decide +kernel))) (fun _ h9 => h9) dX3_isOfKind_24 ?_
      refine lv_iload_n hx hb dX3_isOfKind_27 rfl (lv_at hl 1 rfl) ?_
      refine va_ti (v := .int 0) hx hb hN_.2.2 hS (vp_in_nI (n := 2) (N := 7) (by omega) (by omega)) rfl dX3_isOfKind_28 ?_
      refine lv_istore_n (lv' := [(2, .int 0), (3, .int 0), (0, .ref a0), (1, .int x)]) hx hb dX3_isOfKind_29 rfl hl (by decide) rfl (fun ls hl => ?_)
      refine lv_iinc (v := 1) (lv' := [(3, .int 1), (2, .int 0), (0, .ref a0), (1, .int x)]) hx hb dX3_isOfKind_30 hl (k := 1) rfl (by decide) (by decide) rfl (fun ls hl => ?_)
      refine lv_goto (tgt := 7) hx hb dX3_isOfKind_33 (by decide) ?_
      refine lv_iload_n hx hb dX3_isOfKind_7 rfl (lv_at hl 0 rfl) ?_
      refine lv_bipush (v := 7) hx hb dX3_isOfKind_8 (by decide) ?_
      refine lv_icmp_ge (tgt := 36) hx hb dX3_isOfKind_10 (by decide) (fun c_17 => absurd c_17 (by decide)) (fun _ => ?_)
      refine lv_iload_n hx hb dX3_isOfKind_13 rfl (lv_at hl 1 rfl) ?_
      refine lv_if_lt (tgt := 36) hx hb dX3_isOfKind_14 (by decide) (fun c_18 => absurd c_18 (by decide)) (fun _ => ?_)
      refine lv_iload_n hx hb dX3_isOfKind_17 rfl (lv_at hl 1 rfl) ?_
      refine lv_iload_n hx hb dX3_isOfKind_18 rfl (lv_at hl 3 rfl) ?_
      refine lv_icmp_ne (tgt := 24) hx hb dX3_isOfKind_19 (by decide) (fun c_19 => ?_) (fun c_19 => ?_)
      · skip
        refine va_getsN (C := "MistHeaps") (n := "KIND_ABOVE") (d := "[I") (v := .ref kA) hx hb hN_.2.1 hS hown (va_Nw.use rfl (hN_.1 (.fieldLinkNest RX3 24 "MistHeaps" "KIND_ABOVE" "[I" "MistHeaps") (by decide +kernel))) (fun _ h9 => h9) dX3_isOfKind_24 ?_
        refine lv_iload_n hx hb dX3_isOfKind_27 rfl (lv_at hl 1 rfl) ?_
        refine va_ti (v := .int (-1)) hx hb hN_.2.2 hS (vp_in_nI (n := 0) (N := 7) (by omega) (by omega)) rfl dX3_isOfKind_28 ?_
        refine lv_istore_n (lv' := [(2, .int (-1)), (3, .int 1), (0, .ref a0), (1, .int x)]) hx hb dX3_isOfKind_29 rfl hl (by decide) rfl (fun ls hl => ?_)
        refine lv_iinc (v := 2) (lv' := [(3, .int 2), (2, .int (-1)), (0, .ref a0), (1, .int x)]) hx hb dX3_isOfKind_30 hl (k := 1) rfl (by decide) (by decide) rfl (fun ls hl => ?_)
        refine lv_goto (tgt := 7) hx hb dX3_isOfKind_33 (by decide) ?_
        refine lv_iload_n hx hb dX3_isOfKind_7 rfl (lv_at hl 0 rfl) ?_
        refine lv_bipush (v := 7) hx hb dX3_isOfKind_8 (by decide) ?_
        refine lv_icmp_ge (tgt := 36) hx hb dX3_isOfKind_10 (by decide) (fun c_20 => absurd c_20 (by decide)) (fun _ => ?_)
        refine lv_iload_n hx hb dX3_isOfKind_13 rfl (lv_at hl 1 rfl) ?_
        refine lv_if_lt (tgt := 36) hx hb dX3_isOfKind_14 (by decide) (fun _ => ?_) (fun c_21 => absurd c_21 (by decide))
        refine lv_iconst (v := 0) hx hb dX3_isOfKind_36 (by decide) ?_
        rw [hQ]
        exact W.zret (v := 0) hx hb hr rfl (fun tQ htQ hWQ => ⟨0, rfl, Or.inr ⟨rfl, fun q => by rcases q with q9 | q9 | ⟨q9, q8⟩ | ⟨q9, q8⟩ | ⟨q9, q8⟩; exact c_19 q9.symm; exact c_16 q9.symm; exact absurd q8 (by decide); exact absurd q8 (by decide); exact absurd q8 (by decide)⟩, by rw [htQ]⟩) (fun q hq => absurd hq List.not_mem_nil) dX3_isOfKind_37
      · skip
        refine lv_iconst (v := 1) hx hb dX3_isOfKind_22 (by decide) ?_
        rw [hQ]
        exact W.zret (v := 1) hx hb hr rfl (fun tQ htQ hWQ => ⟨1, rfl, Or.inl ⟨rfl, by rw [← c_19]; decide⟩, by rw [htQ]⟩) (fun q hq => absurd hq List.not_mem_nil) dX3_isOfKind_23
    · skip
      refine lv_iconst (v := 1) hx hb dX3_isOfKind_22 (by decide) ?_
      rw [hQ]
      exact W.zret (v := 1) hx hb hr rfl (fun tQ htQ hWQ => ⟨1, rfl, Or.inl ⟨rfl, by rw [← c_16]; decide⟩, by rw [htQ]⟩) (fun q hq => absurd hq List.not_mem_nil) dX3_isOfKind_23
  · skip
    refine lv_aload_n hx hb dX3_isOfKind_0 rfl (lv_at hl 0 rfl) ?_
    refine va_get (D := (dC, dI)) (ci := 5) (v := .int 3) (C := RX3) (T := TX3) (N := 4) hx hb hts kc_isOfKind_X3_1 hown hZ.2.1 (hZ.P hS) 0 rfl rfl 0 (by decide) (hts (.fieldLink RX3 9 "MistHeaps$Heap" "kind" "I") kc_isOfKind_X3_0) (fun _ h9 => h9) rfl dX3_isOfKind_1 ?_
    refine lv_istore_n (lv' := [(2, .int 3), (0, .ref a0), (1, .int x)]) hx hb dX3_isOfKind_4 rfl hl (by decide) rfl (fun ls hl => ?_)
    refine lv_iconst (v := 0) hx hb dX3_isOfKind_5 (by decide) ?_
    refine lv_istore_n (lv' := [(3, .int 0), (2, .int 3), (0, .ref a0), (1, .int x)]) hx hb dX3_isOfKind_6 rfl hl (by decide) rfl (fun ls hl => ?_)
    refine lv_iload_n hx hb dX3_isOfKind_7 rfl (lv_at hl 0 rfl) ?_
    refine lv_bipush (v := 7) hx hb dX3_isOfKind_8 (by decide) ?_
    refine lv_icmp_ge (tgt := 36) hx hb dX3_isOfKind_10 (by decide) (fun c_22 => absurd c_22 (by decide)) (fun _ => ?_)
    refine lv_iload_n hx hb dX3_isOfKind_13 rfl (lv_at hl 1 rfl) ?_
    refine lv_if_lt (tgt := 36) hx hb dX3_isOfKind_14 (by decide) (fun c_23 => absurd c_23 (by decide)) (fun _ => ?_)
    refine lv_iload_n hx hb dX3_isOfKind_17 rfl (lv_at hl 1 rfl) ?_
    refine lv_iload_n hx hb dX3_isOfKind_18 rfl (lv_at hl 3 rfl) ?_
    refine lv_icmp_ne (tgt := 24) hx hb dX3_isOfKind_19 (by decide) (fun c_24 => ?_) (fun c_24 => ?_)
    · skip
      refine va_getsN (C := "MistHeaps") (n := "KIND_ABOVE") (d := "[I") (v := .ref kA) hx hb hN_.2.1 hS hown (va_Nw.use rfl (hN_.1 (.fieldLinkNest RX3 24 "MistHeaps" "KIND_ABOVE" "[I" "MistHeaps") (by decide +kernel))) (fun _ h9 => h9) dX3_isOfKind_24 ?_
      refine lv_iload_n hx hb dX3_isOfKind_27 rfl (lv_at hl 1 rfl) ?_
      refine va_ti (v := .int 0) hx hb hN_.2.2 hS (vp_in_nI (n := 3) (N := 7) (by omega) (by omega)) rfl dX3_isOfKind_28 ?_
      refine lv_istore_n (lv' := [(2, .int 0), (3, .int 0), (0, .ref a0), (1, .int x)]) hx hb dX3_isOfKind_29 rfl hl (by decide) rfl (fun ls hl => ?_)
      refine lv_iinc (v := 1) (lv' := [(3, .int 1), (2, .int 0), (0, .ref a0), (1, .int x)]) hx hb dX3_isOfKind_30 hl (k := 1) rfl (by decide) (by decide) rfl (fun ls hl => ?_)
      refine lv_goto (tgt := 7) hx hb dX3_isOfKind_33 (by decide) ?_
      refine lv_iload_n hx hb dX3_isOfKind_7 rfl (lv_at hl 0 rfl) ?_
      refine lv_bipush (v := 7) hx hb dX3_isOfKind_8 (by decide) ?_
      refine lv_icmp_ge (tgt := 36) hx hb dX3_isOfKind_10 (by decide) (fun c_25 => absurd c_25 (by decide)) (fun _ => ?_)
      refine lv_iload_n hx hb dX3_isOfKind_13 rfl (lv_at hl 1 rfl) ?_
      refine lv_if_lt (tgt := 36) hx hb dX3_isOfKind_14 (by decide) (fun c_26 => absurd c_26 (by decide)) (fun _ => ?_)
      refine lv_iload_n hx hb dX3_isOfKind_17 rfl (lv_at hl 1 rfl) ?_
      refine lv_iload_n hx hb dX3_isOfKind_18 rfl (lv_at hl 3 rfl) ?_
      refine lv_icmp_ne (tgt := 24) hx hb dX3_isOfKind_19 (by decide) (fun c_27 => ?_) (fun c_27 => ?_)
      · skip
        refine va_getsN (C := "MistHeaps") (n := "KIND_ABOVE") (d := "[I") (v := .ref kA) hx hb hN_.2.1 hS hown (va_Nw.use rfl (hN_.1 (.fieldLinkNest RX3 24 "MistHeaps" "KIND_ABOVE" "[I" "MistHeaps") (by decide +kernel))) (fun _ h9 => h9) dX3_isOfKind_24 ?_
        refine lv_iload_n hx hb dX3_isOfKind_27 rfl (lv_at hl 1 rfl) ?_
        refine va_ti (v := .int (-1)) hx hb hN_.2.2 hS (vp_in_nI (n := 0) (N := 7) (by omega) (by omega)) rfl dX3_isOfKind_28 ?_
        refine lv_istore_n (lv' := [(2, .int (-1)), (3, .int 1), (0, .ref a0), (1, .int x)]) hx hb dX3_isOfKind_29 rfl hl (by decide) rfl (fun ls hl => ?_)
        refine lv_iinc (v := 2) (lv' := [(3, .int 2), (2, .int (-1)), (0, .ref a0), (1, .int x)]) hx hb dX3_isOfKind_30 hl (k := 1) rfl (by decide) (by decide) rfl (fun ls hl => ?_)
        refine lv_goto (tgt := 7) hx hb dX3_isOfKind_33 (by decide) ?_
        refine lv_iload_n hx hb dX3_isOfKind_7 rfl (lv_at hl 0 rfl) ?_
        refine lv_bipush (v := 7) hx hb dX3_isOfKind_8 (by decide) ?_
        refine lv_icmp_ge (tgt := 36) hx hb dX3_isOfKind_10 (by decide) (fun c_28 => absurd c_28 (by decide)) (fun _ => ?_)
        refine lv_iload_n hx hb dX3_isOfKind_13 rfl (lv_at hl 1 rfl) ?_
        refine lv_if_lt (tgt := 36) hx hb dX3_isOfKind_14 (by decide) (fun _ => ?_) (fun c_29 => absurd c_29 (by decide))
        refine lv_iconst (v := 0) hx hb dX3_isOfKind_36 (by decide) ?_
        rw [hQ]
        exact W.zret (v := 0) hx hb hr rfl (fun tQ htQ hWQ => ⟨0, rfl, Or.inr ⟨rfl, fun q => by rcases q with q9 | q9 | ⟨q9, q8⟩ | ⟨q9, q8⟩ | ⟨q9, q8⟩; exact c_27 q9.symm; exact c_24 q9.symm; exact absurd q8 (by decide); exact absurd q8 (by decide); exact absurd q8 (by decide)⟩, by rw [htQ]⟩) (fun q hq => absurd hq List.not_mem_nil) dX3_isOfKind_37
      · skip
        refine lv_iconst (v := 1) hx hb dX3_isOfKind_22 (by decide) ?_
        rw [hQ]
        exact W.zret (v := 1) hx hb hr rfl (fun tQ htQ hWQ => ⟨1, rfl, Or.inl ⟨rfl, by rw [← c_27]; decide⟩, by rw [htQ]⟩) (fun q hq => absurd hq List.not_mem_nil) dX3_isOfKind_23
    · skip
      refine lv_iconst (v := 1) hx hb dX3_isOfKind_22 (by decide) ?_
      rw [hQ]
      exact W.zret (v := 1) hx hb hr rfl (fun tQ htQ hWQ => ⟨1, rfl, Or.inl ⟨rfl, by rw [← c_24]; decide⟩, by rw [htQ]⟩) (fun q hq => absurd hq List.not_mem_nil) dX3_isOfKind_23
  · skip
    refine lv_aload_n hx hb dX3_isOfKind_0 rfl (lv_at hl 0 rfl) ?_
    refine va_get (D := (dC, dI)) (ci := 5) (v := .int 4) (C := RX3) (T := TX3) (N := 4) hx hb hts kc_isOfKind_X3_1 hown hZ.2.1 (hZ.P hS) 0 rfl rfl 0 (by decide) (hts (.fieldLink RX3 9 "MistHeaps$Heap" "kind" "I") kc_isOfKind_X3_0) (fun _ h9 => h9) rfl dX3_isOfKind_1 ?_
    refine lv_istore_n (lv' := [(2, .int 4), (0, .ref a0), (1, .int x)]) hx hb dX3_isOfKind_4 rfl hl (by decide) rfl (fun ls hl => ?_)
    refine lv_iconst (v := 0) hx hb dX3_isOfKind_5 (by decide) ?_
    refine lv_istore_n (lv' := [(3, .int 0), (2, .int 4), (0, .ref a0), (1, .int x)]) hx hb dX3_isOfKind_6 rfl hl (by decide) rfl (fun ls hl => ?_)
    refine lv_iload_n hx hb dX3_isOfKind_7 rfl (lv_at hl 0 rfl) ?_
    refine lv_bipush (v := 7) hx hb dX3_isOfKind_8 (by decide) ?_
    refine lv_icmp_ge (tgt := 36) hx hb dX3_isOfKind_10 (by decide) (fun c_30 => absurd c_30 (by decide)) (fun _ => ?_)
    refine lv_iload_n hx hb dX3_isOfKind_13 rfl (lv_at hl 1 rfl) ?_
    refine lv_if_lt (tgt := 36) hx hb dX3_isOfKind_14 (by decide) (fun c_31 => absurd c_31 (by decide)) (fun _ => ?_)
    refine lv_iload_n hx hb dX3_isOfKind_17 rfl (lv_at hl 1 rfl) ?_
    refine lv_iload_n hx hb dX3_isOfKind_18 rfl (lv_at hl 3 rfl) ?_
    refine lv_icmp_ne (tgt := 24) hx hb dX3_isOfKind_19 (by decide) (fun c_32 => ?_) (fun c_32 => ?_)
    · skip
      refine va_getsN (C := "MistHeaps") (n := "KIND_ABOVE") (d := "[I") (v := .ref kA) hx hb hN_.2.1 hS hown (va_Nw.use rfl (hN_.1 (.fieldLinkNest RX3 24 "MistHeaps" "KIND_ABOVE" "[I" "MistHeaps") (by decide +kernel))) (fun _ h9 => h9) dX3_isOfKind_24 ?_
      refine lv_iload_n hx hb dX3_isOfKind_27 rfl (lv_at hl 1 rfl) ?_
      refine va_ti (v := .int 1) hx hb hN_.2.2 hS (vp_in_nI (n := 4) (N := 7) (by omega) (by omega)) rfl dX3_isOfKind_28 ?_
      refine lv_istore_n (lv' := [(2, .int 1), (3, .int 0), (0, .ref a0), (1, .int x)]) hx hb dX3_isOfKind_29 rfl hl (by decide) rfl (fun ls hl => ?_)
      refine lv_iinc (v := 1) (lv' := [(3, .int 1), (2, .int 1), (0, .ref a0), (1, .int x)]) hx hb dX3_isOfKind_30 hl (k := 1) rfl (by decide) (by decide) rfl (fun ls hl => ?_)
      refine lv_goto (tgt := 7) hx hb dX3_isOfKind_33 (by decide) ?_
      refine lv_iload_n hx hb dX3_isOfKind_7 rfl (lv_at hl 0 rfl) ?_
      refine lv_bipush (v := 7) hx hb dX3_isOfKind_8 (by decide) ?_
      refine lv_icmp_ge (tgt := 36) hx hb dX3_isOfKind_10 (by decide) (fun c_33 => absurd c_33 (by decide)) (fun _ => ?_)
      refine lv_iload_n hx hb dX3_isOfKind_13 rfl (lv_at hl 1 rfl) ?_
      refine lv_if_lt (tgt := 36) hx hb dX3_isOfKind_14 (by decide) (fun c_34 => absurd c_34 (by decide)) (fun _ => ?_)
      refine lv_iload_n hx hb dX3_isOfKind_17 rfl (lv_at hl 1 rfl) ?_
      refine lv_iload_n hx hb dX3_isOfKind_18 rfl (lv_at hl 3 rfl) ?_
      refine lv_icmp_ne (tgt := 24) hx hb dX3_isOfKind_19 (by decide) (fun c_35 => ?_) (fun c_35 => ?_)
      · skip
        refine va_getsN (C := "MistHeaps") (n := "KIND_ABOVE") (d := "[I") (v := .ref kA) hx hb hN_.2.1 hS hown (va_Nw.use rfl (hN_.1 (.fieldLinkNest RX3 24 "MistHeaps" "KIND_ABOVE" "[I" "MistHeaps") (by decide +kernel))) (fun _ h9 => h9) dX3_isOfKind_24 ?_
        refine lv_iload_n hx hb dX3_isOfKind_27 rfl (lv_at hl 1 rfl) ?_
        refine va_ti (v := .int 0) hx hb hN_.2.2 hS (vp_in_nI (n := 1) (N := 7) (by omega) (by omega)) rfl dX3_isOfKind_28 ?_
        refine lv_istore_n (lv' := [(2, .int 0), (3, .int 1), (0, .ref a0), (1, .int x)]) hx hb dX3_isOfKind_29 rfl hl (by decide) rfl (fun ls hl => ?_)
        refine lv_iinc (v := 2) (lv' := [(3, .int 2), (2, .int 0), (0, .ref a0), (1, .int x)]) hx hb dX3_isOfKind_30 hl (k := 1) rfl (by decide) (by decide) rfl (fun ls hl => ?_)
        refine lv_goto (tgt := 7) hx hb dX3_isOfKind_33 (by decide) ?_
        refine lv_iload_n hx hb dX3_isOfKind_7 rfl (lv_at hl 0 rfl) ?_
        refine lv_bipush (v := 7) hx hb dX3_isOfKind_8 (by decide) ?_
        refine lv_icmp_ge (tgt := 36) hx hb dX3_isOfKind_10 (by decide) (fun c_36 => absurd c_36 (by decide)) (fun _ => ?_)
        refine lv_iload_n hx hb dX3_isOfKind_13 rfl (lv_at hl 1 rfl) ?_
        refine lv_if_lt (tgt := 36) hx hb dX3_isOfKind_14 (by decide) (fun c_37 => absurd c_37 (by decide)) (fun _ => ?_)
        refine lv_iload_n hx hb dX3_isOfKind_17 rfl (lv_at hl 1 rfl) ?_
        refine lv_iload_n hx hb dX3_isOfKind_18 rfl (lv_at hl 3 rfl) ?_
        refine lv_icmp_ne (tgt := 24) hx hb dX3_isOfKind_19 (by decide) (fun c_38 => ?_) (fun c_38 => ?_)
        · skip
          refine va_getsN (C := "MistHeaps") (n := "KIND_ABOVE") (d := "[I") (v := .ref kA) hx hb hN_.2.1 hS hown (va_Nw.use rfl (hN_.1 (.fieldLinkNest RX3 24 "MistHeaps" "KIND_ABOVE" "[I" "MistHeaps") (by decide +kernel))) (fun _ h9 => h9) dX3_isOfKind_24 ?_
          refine lv_iload_n hx hb dX3_isOfKind_27 rfl (lv_at hl 1 rfl) ?_
          refine va_ti (v := .int (-1)) hx hb hN_.2.2 hS (vp_in_nI (n := 0) (N := 7) (by omega) (by omega)) rfl dX3_isOfKind_28 ?_
          refine lv_istore_n (lv' := [(2, .int (-1)), (3, .int 2), (0, .ref a0), (1, .int x)]) hx hb dX3_isOfKind_29 rfl hl (by decide) rfl (fun ls hl => ?_)
          refine lv_iinc (v := 3) (lv' := [(3, .int 3), (2, .int (-1)), (0, .ref a0), (1, .int x)]) hx hb dX3_isOfKind_30 hl (k := 1) rfl (by decide) (by decide) rfl (fun ls hl => ?_)
          refine lv_goto (tgt := 7) hx hb dX3_isOfKind_33 (by decide) ?_
          refine lv_iload_n hx hb dX3_isOfKind_7 rfl (lv_at hl 0 rfl) ?_
          refine lv_bipush (v := 7) hx hb dX3_isOfKind_8 (by decide) ?_
          refine lv_icmp_ge (tgt := 36) hx hb dX3_isOfKind_10 (by decide) (fun c_39 => absurd c_39 (by decide)) (fun _ => ?_)
          refine lv_iload_n hx hb dX3_isOfKind_13 rfl (lv_at hl 1 rfl) ?_
          refine lv_if_lt (tgt := 36) hx hb dX3_isOfKind_14 (by decide) (fun _ => ?_) (fun c_40 => absurd c_40 (by decide))
          refine lv_iconst (v := 0) hx hb dX3_isOfKind_36 (by decide) ?_
          rw [hQ]
          exact W.zret (v := 0) hx hb hr rfl (fun tQ htQ hWQ => ⟨0, rfl, Or.inr ⟨rfl, fun q => by rcases q with q9 | q9 | ⟨q9, q8⟩ | ⟨q9, q8⟩ | ⟨q9, q8⟩; exact c_38 q9.symm; exact c_32 q9.symm; exact c_35 q9.symm; exact absurd q8 (by decide); exact absurd q8 (by decide)⟩, by rw [htQ]⟩) (fun q hq => absurd hq List.not_mem_nil) dX3_isOfKind_37
        · skip
          refine lv_iconst (v := 1) hx hb dX3_isOfKind_22 (by decide) ?_
          rw [hQ]
          exact W.zret (v := 1) hx hb hr rfl (fun tQ htQ hWQ => ⟨1, rfl, Or.inl ⟨rfl, by rw [← c_38]; decide⟩, by rw [htQ]⟩) (fun q hq => absurd hq List.not_mem_nil) dX3_isOfKind_23
      · skip
        refine lv_iconst (v := 1) hx hb dX3_isOfKind_22 (by decide) ?_
        rw [hQ]
        exact W.zret (v := 1) hx hb hr rfl (fun tQ htQ hWQ => ⟨1, rfl, Or.inl ⟨rfl, by rw [← c_35]; decide⟩, by rw [htQ]⟩) (fun q hq => absurd hq List.not_mem_nil) dX3_isOfKind_23
    · skip
      refine lv_iconst (v := 1) hx hb dX3_isOfKind_22 (by decide) ?_
      rw [hQ]
      exact W.zret (v := 1) hx hb hr rfl (fun tQ htQ hWQ => ⟨1, rfl, Or.inl ⟨rfl, by rw [← c_32]; decide⟩, by rw [htQ]⟩) (fun q hq => absurd hq List.not_mem_nil) dX3_isOfKind_23
  · skip
    refine lv_aload_n hx hb dX3_isOfKind_0 rfl (lv_at hl 0 rfl) ?_
    refine va_get (D := (dC, dI)) (ci := 5) (v := .int 5) (C := RX3) (T := TX3) (N := 4) hx hb hts kc_isOfKind_X3_1 hown hZ.2.1 (hZ.P hS) 0 rfl rfl 0 (by decide) (hts (.fieldLink RX3 9 "MistHeaps$Heap" "kind" "I") kc_isOfKind_X3_0) (fun _ h9 => h9) rfl dX3_isOfKind_1 ?_
    refine lv_istore_n (lv' := [(2, .int 5), (0, .ref a0), (1, .int x)]) hx hb dX3_isOfKind_4 rfl hl (by decide) rfl (fun ls hl => ?_)
    refine lv_iconst (v := 0) hx hb dX3_isOfKind_5 (by decide) ?_
    refine lv_istore_n (lv' := [(3, .int 0), (2, .int 5), (0, .ref a0), (1, .int x)]) hx hb dX3_isOfKind_6 rfl hl (by decide) rfl (fun ls hl => ?_)
    refine lv_iload_n hx hb dX3_isOfKind_7 rfl (lv_at hl 0 rfl) ?_
    refine lv_bipush (v := 7) hx hb dX3_isOfKind_8 (by decide) ?_
    refine lv_icmp_ge (tgt := 36) hx hb dX3_isOfKind_10 (by decide) (fun c_41 => absurd c_41 (by decide)) (fun _ => ?_)
    refine lv_iload_n hx hb dX3_isOfKind_13 rfl (lv_at hl 1 rfl) ?_
    refine lv_if_lt (tgt := 36) hx hb dX3_isOfKind_14 (by decide) (fun c_42 => absurd c_42 (by decide)) (fun _ => ?_)
    refine lv_iload_n hx hb dX3_isOfKind_17 rfl (lv_at hl 1 rfl) ?_
    refine lv_iload_n hx hb dX3_isOfKind_18 rfl (lv_at hl 3 rfl) ?_
    refine lv_icmp_ne (tgt := 24) hx hb dX3_isOfKind_19 (by decide) (fun c_43 => ?_) (fun c_43 => ?_)
    · skip
      refine va_getsN (C := "MistHeaps") (n := "KIND_ABOVE") (d := "[I") (v := .ref kA) hx hb hN_.2.1 hS hown (va_Nw.use rfl (hN_.1 (.fieldLinkNest RX3 24 "MistHeaps" "KIND_ABOVE" "[I" "MistHeaps") (by decide +kernel))) (fun _ h9 => h9) dX3_isOfKind_24 ?_
      refine lv_iload_n hx hb dX3_isOfKind_27 rfl (lv_at hl 1 rfl) ?_
      refine va_ti (v := .int 2) hx hb hN_.2.2 hS (vp_in_nI (n := 5) (N := 7) (by omega) (by omega)) rfl dX3_isOfKind_28 ?_
      refine lv_istore_n (lv' := [(2, .int 2), (3, .int 0), (0, .ref a0), (1, .int x)]) hx hb dX3_isOfKind_29 rfl hl (by decide) rfl (fun ls hl => ?_)
      refine lv_iinc (v := 1) (lv' := [(3, .int 1), (2, .int 2), (0, .ref a0), (1, .int x)]) hx hb dX3_isOfKind_30 hl (k := 1) rfl (by decide) (by decide) rfl (fun ls hl => ?_)
      refine lv_goto (tgt := 7) hx hb dX3_isOfKind_33 (by decide) ?_
      refine lv_iload_n hx hb dX3_isOfKind_7 rfl (lv_at hl 0 rfl) ?_
      refine lv_bipush (v := 7) hx hb dX3_isOfKind_8 (by decide) ?_
      refine lv_icmp_ge (tgt := 36) hx hb dX3_isOfKind_10 (by decide) (fun c_44 => absurd c_44 (by decide)) (fun _ => ?_)
      refine lv_iload_n hx hb dX3_isOfKind_13 rfl (lv_at hl 1 rfl) ?_
      refine lv_if_lt (tgt := 36) hx hb dX3_isOfKind_14 (by decide) (fun c_45 => absurd c_45 (by decide)) (fun _ => ?_)
      refine lv_iload_n hx hb dX3_isOfKind_17 rfl (lv_at hl 1 rfl) ?_
      refine lv_iload_n hx hb dX3_isOfKind_18 rfl (lv_at hl 3 rfl) ?_
      refine lv_icmp_ne (tgt := 24) hx hb dX3_isOfKind_19 (by decide) (fun c_46 => ?_) (fun c_46 => ?_)
      · skip
        refine va_getsN (C := "MistHeaps") (n := "KIND_ABOVE") (d := "[I") (v := .ref kA) hx hb hN_.2.1 hS hown (va_Nw.use rfl (hN_.1 (.fieldLinkNest RX3 24 "MistHeaps" "KIND_ABOVE" "[I" "MistHeaps") (by decide +kernel))) (fun _ h9 => h9) dX3_isOfKind_24 ?_
        refine lv_iload_n hx hb dX3_isOfKind_27 rfl (lv_at hl 1 rfl) ?_
        refine va_ti (v := .int 0) hx hb hN_.2.2 hS (vp_in_nI (n := 2) (N := 7) (by omega) (by omega)) rfl dX3_isOfKind_28 ?_
        refine lv_istore_n (lv' := [(2, .int 0), (3, .int 1), (0, .ref a0), (1, .int x)]) hx hb dX3_isOfKind_29 rfl hl (by decide) rfl (fun ls hl => ?_)
        refine lv_iinc (v := 2) (lv' := [(3, .int 2), (2, .int 0), (0, .ref a0), (1, .int x)]) hx hb dX3_isOfKind_30 hl (k := 1) rfl (by decide) (by decide) rfl (fun ls hl => ?_)
        refine lv_goto (tgt := 7) hx hb dX3_isOfKind_33 (by decide) ?_
        refine lv_iload_n hx hb dX3_isOfKind_7 rfl (lv_at hl 0 rfl) ?_
        refine lv_bipush (v := 7) hx hb dX3_isOfKind_8 (by decide) ?_
        refine lv_icmp_ge (tgt := 36) hx hb dX3_isOfKind_10 (by decide) (fun c_47 => absurd c_47 (by decide)) (fun _ => ?_)
        refine lv_iload_n hx hb dX3_isOfKind_13 rfl (lv_at hl 1 rfl) ?_
        refine lv_if_lt (tgt := 36) hx hb dX3_isOfKind_14 (by decide) (fun c_48 => absurd c_48 (by decide)) (fun _ => ?_)
        refine lv_iload_n hx hb dX3_isOfKind_17 rfl (lv_at hl 1 rfl) ?_
        refine lv_iload_n hx hb dX3_isOfKind_18 rfl (lv_at hl 3 rfl) ?_
        refine lv_icmp_ne (tgt := 24) hx hb dX3_isOfKind_19 (by decide) (fun c_49 => ?_) (fun c_49 => ?_)
        · skip
          refine va_getsN (C := "MistHeaps") (n := "KIND_ABOVE") (d := "[I") (v := .ref kA) hx hb hN_.2.1 hS hown (va_Nw.use rfl (hN_.1 (.fieldLinkNest RX3 24 "MistHeaps" "KIND_ABOVE" "[I" "MistHeaps") (by decide +kernel))) (fun _ h9 => h9) dX3_isOfKind_24 ?_
          refine lv_iload_n hx hb dX3_isOfKind_27 rfl (lv_at hl 1 rfl) ?_
          refine va_ti (v := .int (-1)) hx hb hN_.2.2 hS (vp_in_nI (n := 0) (N := 7) (by omega) (by omega)) rfl dX3_isOfKind_28 ?_
          refine lv_istore_n (lv' := [(2, .int (-1)), (3, .int 2), (0, .ref a0), (1, .int x)]) hx hb dX3_isOfKind_29 rfl hl (by decide) rfl (fun ls hl => ?_)
          refine lv_iinc (v := 3) (lv' := [(3, .int 3), (2, .int (-1)), (0, .ref a0), (1, .int x)]) hx hb dX3_isOfKind_30 hl (k := 1) rfl (by decide) (by decide) rfl (fun ls hl => ?_)
          refine lv_goto (tgt := 7) hx hb dX3_isOfKind_33 (by decide) ?_
          refine lv_iload_n hx hb dX3_isOfKind_7 rfl (lv_at hl 0 rfl) ?_
          refine lv_bipush (v := 7) hx hb dX3_isOfKind_8 (by decide) ?_
          refine lv_icmp_ge (tgt := 36) hx hb dX3_isOfKind_10 (by decide) (fun c_50 => absurd c_50 (by decide)) (fun _ => ?_)
          refine lv_iload_n hx hb dX3_isOfKind_13 rfl (lv_at hl 1 rfl) ?_
          refine lv_if_lt (tgt := 36) hx hb dX3_isOfKind_14 (by decide) (fun _ => ?_) (fun c_51 => absurd c_51 (by decide))
          refine lv_iconst (v := 0) hx hb dX3_isOfKind_36 (by decide) ?_
          rw [hQ]
          exact W.zret (v := 0) hx hb hr rfl (fun tQ htQ hWQ => ⟨0, rfl, Or.inr ⟨rfl, fun q => by rcases q with q9 | q9 | ⟨q9, q8⟩ | ⟨q9, q8⟩ | ⟨q9, q8⟩; exact c_49 q9.symm; exact c_43 q9.symm; exact absurd q8 (by decide); exact c_46 q9.symm; exact absurd q8 (by decide)⟩, by rw [htQ]⟩) (fun q hq => absurd hq List.not_mem_nil) dX3_isOfKind_37
        · skip
          refine lv_iconst (v := 1) hx hb dX3_isOfKind_22 (by decide) ?_
          rw [hQ]
          exact W.zret (v := 1) hx hb hr rfl (fun tQ htQ hWQ => ⟨1, rfl, Or.inl ⟨rfl, by rw [← c_49]; decide⟩, by rw [htQ]⟩) (fun q hq => absurd hq List.not_mem_nil) dX3_isOfKind_23
      · skip
        refine lv_iconst (v := 1) hx hb dX3_isOfKind_22 (by decide) ?_
        rw [hQ]
        exact W.zret (v := 1) hx hb hr rfl (fun tQ htQ hWQ => ⟨1, rfl, Or.inl ⟨rfl, by rw [← c_46]; decide⟩, by rw [htQ]⟩) (fun q hq => absurd hq List.not_mem_nil) dX3_isOfKind_23
    · skip
      refine lv_iconst (v := 1) hx hb dX3_isOfKind_22 (by decide) ?_
      rw [hQ]
      exact W.zret (v := 1) hx hb hr rfl (fun tQ htQ hWQ => ⟨1, rfl, Or.inl ⟨rfl, by rw [← c_43]; decide⟩, by rw [htQ]⟩) (fun q hq => absurd hq List.not_mem_nil) dX3_isOfKind_23
  · skip
    refine lv_aload_n hx hb dX3_isOfKind_0 rfl (lv_at hl 0 rfl) ?_
    refine va_get (D := (dC, dI)) (ci := 5) (v := .int 6) (C := RX3) (T := TX3) (N := 4) hx hb hts kc_isOfKind_X3_1 hown hZ.2.1 (hZ.P hS) 0 rfl rfl 0 (by decide) (hts (.fieldLink RX3 9 "MistHeaps$Heap" "kind" "I") kc_isOfKind_X3_0) (fun _ h9 => h9) rfl dX3_isOfKind_1 ?_
    refine lv_istore_n (lv' := [(2, .int 6), (0, .ref a0), (1, .int x)]) hx hb dX3_isOfKind_4 rfl hl (by decide) rfl (fun ls hl => ?_)
    refine lv_iconst (v := 0) hx hb dX3_isOfKind_5 (by decide) ?_
    refine lv_istore_n (lv' := [(3, .int 0), (2, .int 6), (0, .ref a0), (1, .int x)]) hx hb dX3_isOfKind_6 rfl hl (by decide) rfl (fun ls hl => ?_)
    refine lv_iload_n hx hb dX3_isOfKind_7 rfl (lv_at hl 0 rfl) ?_
    refine lv_bipush (v := 7) hx hb dX3_isOfKind_8 (by decide) ?_
    refine lv_icmp_ge (tgt := 36) hx hb dX3_isOfKind_10 (by decide) (fun c_52 => absurd c_52 (by decide)) (fun _ => ?_)
    refine lv_iload_n hx hb dX3_isOfKind_13 rfl (lv_at hl 1 rfl) ?_
    refine lv_if_lt (tgt := 36) hx hb dX3_isOfKind_14 (by decide) (fun c_53 => absurd c_53 (by decide)) (fun _ => ?_)
    refine lv_iload_n hx hb dX3_isOfKind_17 rfl (lv_at hl 1 rfl) ?_
    refine lv_iload_n hx hb dX3_isOfKind_18 rfl (lv_at hl 3 rfl) ?_
    refine lv_icmp_ne (tgt := 24) hx hb dX3_isOfKind_19 (by decide) (fun c_54 => ?_) (fun c_54 => ?_)
    · skip
      refine va_getsN (C := "MistHeaps") (n := "KIND_ABOVE") (d := "[I") (v := .ref kA) hx hb hN_.2.1 hS hown (va_Nw.use rfl (hN_.1 (.fieldLinkNest RX3 24 "MistHeaps" "KIND_ABOVE" "[I" "MistHeaps") (by decide +kernel))) (fun _ h9 => h9) dX3_isOfKind_24 ?_
      refine lv_iload_n hx hb dX3_isOfKind_27 rfl (lv_at hl 1 rfl) ?_
      refine va_ti (v := .int 3) hx hb hN_.2.2 hS (vp_in_nI (n := 6) (N := 7) (by omega) (by omega)) rfl dX3_isOfKind_28 ?_
      refine lv_istore_n (lv' := [(2, .int 3), (3, .int 0), (0, .ref a0), (1, .int x)]) hx hb dX3_isOfKind_29 rfl hl (by decide) rfl (fun ls hl => ?_)
      refine lv_iinc (v := 1) (lv' := [(3, .int 1), (2, .int 3), (0, .ref a0), (1, .int x)]) hx hb dX3_isOfKind_30 hl (k := 1) rfl (by decide) (by decide) rfl (fun ls hl => ?_)
      refine lv_goto (tgt := 7) hx hb dX3_isOfKind_33 (by decide) ?_
      refine lv_iload_n hx hb dX3_isOfKind_7 rfl (lv_at hl 0 rfl) ?_
      refine lv_bipush (v := 7) hx hb dX3_isOfKind_8 (by decide) ?_
      refine lv_icmp_ge (tgt := 36) hx hb dX3_isOfKind_10 (by decide) (fun c_55 => absurd c_55 (by decide)) (fun _ => ?_)
      refine lv_iload_n hx hb dX3_isOfKind_13 rfl (lv_at hl 1 rfl) ?_
      refine lv_if_lt (tgt := 36) hx hb dX3_isOfKind_14 (by decide) (fun c_56 => absurd c_56 (by decide)) (fun _ => ?_)
      refine lv_iload_n hx hb dX3_isOfKind_17 rfl (lv_at hl 1 rfl) ?_
      refine lv_iload_n hx hb dX3_isOfKind_18 rfl (lv_at hl 3 rfl) ?_
      refine lv_icmp_ne (tgt := 24) hx hb dX3_isOfKind_19 (by decide) (fun c_57 => ?_) (fun c_57 => ?_)
      · skip
        refine va_getsN (C := "MistHeaps") (n := "KIND_ABOVE") (d := "[I") (v := .ref kA) hx hb hN_.2.1 hS hown (va_Nw.use rfl (hN_.1 (.fieldLinkNest RX3 24 "MistHeaps" "KIND_ABOVE" "[I" "MistHeaps") (by decide +kernel))) (fun _ h9 => h9) dX3_isOfKind_24 ?_
        refine lv_iload_n hx hb dX3_isOfKind_27 rfl (lv_at hl 1 rfl) ?_
        refine va_ti (v := .int 0) hx hb hN_.2.2 hS (vp_in_nI (n := 3) (N := 7) (by omega) (by omega)) rfl dX3_isOfKind_28 ?_
        refine lv_istore_n (lv' := [(2, .int 0), (3, .int 1), (0, .ref a0), (1, .int x)]) hx hb dX3_isOfKind_29 rfl hl (by decide) rfl (fun ls hl => ?_)
        refine lv_iinc (v := 2) (lv' := [(3, .int 2), (2, .int 0), (0, .ref a0), (1, .int x)]) hx hb dX3_isOfKind_30 hl (k := 1) rfl (by decide) (by decide) rfl (fun ls hl => ?_)
        refine lv_goto (tgt := 7) hx hb dX3_isOfKind_33 (by decide) ?_
        refine lv_iload_n hx hb dX3_isOfKind_7 rfl (lv_at hl 0 rfl) ?_
        refine lv_bipush (v := 7) hx hb dX3_isOfKind_8 (by decide) ?_
        refine lv_icmp_ge (tgt := 36) hx hb dX3_isOfKind_10 (by decide) (fun c_58 => absurd c_58 (by decide)) (fun _ => ?_)
        refine lv_iload_n hx hb dX3_isOfKind_13 rfl (lv_at hl 1 rfl) ?_
        refine lv_if_lt (tgt := 36) hx hb dX3_isOfKind_14 (by decide) (fun c_59 => absurd c_59 (by decide)) (fun _ => ?_)
        refine lv_iload_n hx hb dX3_isOfKind_17 rfl (lv_at hl 1 rfl) ?_
        refine lv_iload_n hx hb dX3_isOfKind_18 rfl (lv_at hl 3 rfl) ?_
        refine lv_icmp_ne (tgt := 24) hx hb dX3_isOfKind_19 (by decide) (fun c_60 => ?_) (fun c_60 => ?_)
        · skip
          refine va_getsN (C := "MistHeaps") (n := "KIND_ABOVE") (d := "[I") (v := .ref kA) hx hb hN_.2.1 hS hown (va_Nw.use rfl (hN_.1 (.fieldLinkNest RX3 24 "MistHeaps" "KIND_ABOVE" "[I" "MistHeaps") (by decide +kernel))) (fun _ h9 => h9) dX3_isOfKind_24 ?_
          refine lv_iload_n hx hb dX3_isOfKind_27 rfl (lv_at hl 1 rfl) ?_
          refine va_ti (v := .int (-1)) hx hb hN_.2.2 hS (vp_in_nI (n := 0) (N := 7) (by omega) (by omega)) rfl dX3_isOfKind_28 ?_
          refine lv_istore_n (lv' := [(2, .int (-1)), (3, .int 2), (0, .ref a0), (1, .int x)]) hx hb dX3_isOfKind_29 rfl hl (by decide) rfl (fun ls hl => ?_)
          refine lv_iinc (v := 3) (lv' := [(3, .int 3), (2, .int (-1)), (0, .ref a0), (1, .int x)]) hx hb dX3_isOfKind_30 hl (k := 1) rfl (by decide) (by decide) rfl (fun ls hl => ?_)
          refine lv_goto (tgt := 7) hx hb dX3_isOfKind_33 (by decide) ?_
          refine lv_iload_n hx hb dX3_isOfKind_7 rfl (lv_at hl 0 rfl) ?_
          refine lv_bipush (v := 7) hx hb dX3_isOfKind_8 (by decide) ?_
          refine lv_icmp_ge (tgt := 36) hx hb dX3_isOfKind_10 (by decide) (fun c_61 => absurd c_61 (by decide)) (fun _ => ?_)
          refine lv_iload_n hx hb dX3_isOfKind_13 rfl (lv_at hl 1 rfl) ?_
          refine lv_if_lt (tgt := 36) hx hb dX3_isOfKind_14 (by decide) (fun _ => ?_) (fun c_62 => absurd c_62 (by decide))
          refine lv_iconst (v := 0) hx hb dX3_isOfKind_36 (by decide) ?_
          rw [hQ]
          exact W.zret (v := 0) hx hb hr rfl (fun tQ htQ hWQ => ⟨0, rfl, Or.inr ⟨rfl, fun q => by rcases q with q9 | q9 | ⟨q9, q8⟩ | ⟨q9, q8⟩ | ⟨q9, q8⟩; exact c_60 q9.symm; exact c_54 q9.symm; exact absurd q8 (by decide); exact absurd q8 (by decide); exact c_57 q9.symm⟩, by rw [htQ]⟩) (fun q hq => absurd hq List.not_mem_nil) dX3_isOfKind_37
        · skip
          refine lv_iconst (v := 1) hx hb dX3_isOfKind_22 (by decide) ?_
          rw [hQ]
          exact W.zret (v := 1) hx hb hr rfl (fun tQ htQ hWQ => ⟨1, rfl, Or.inl ⟨rfl, by rw [← c_60]; decide⟩, by rw [htQ]⟩) (fun q hq => absurd hq List.not_mem_nil) dX3_isOfKind_23
      · skip
        refine lv_iconst (v := 1) hx hb dX3_isOfKind_22 (by decide) ?_
        rw [hQ]
        exact W.zret (v := 1) hx hb hr rfl (fun tQ htQ hWQ => ⟨1, rfl, Or.inl ⟨rfl, by rw [← c_57]; decide⟩, by rw [htQ]⟩) (fun q hq => absurd hq List.not_mem_nil) dX3_isOfKind_23
    · skip
      refine lv_iconst (v := 1) hx hb dX3_isOfKind_22 (by decide) ?_
      rw [hQ]
      exact W.zret (v := 1) hx hb hr rfl (fun tQ htQ hWQ => ⟨1, rfl, Or.inl ⟨rfl, by rw [← c_54]; decide⟩, by rw [htQ]⟩) (fun q hq => absurd hq List.not_mem_nil) dX3_isOfKind_23

theorem kc_isOfKind_X4_0 : (.fieldLink RX3 9 "MistHeaps$Heap" "kind" "I" : Cond) ∈ wsX3_isOfKind := kc_of 228 rfl rfl rfl
theorem kc_isOfKind_X4_1 : ∀ w ∈ wsX40, w ∈ wsX3_isOfKind := fun w h => List.mem_cons_of_mem _ (gin_wsX40 w h)
set_option maxHeartbeats 4000000 in
set_option maxRecDepth 100000 in
theorem c_isOfKind_X4 (l : Launch) (dC : Nat → ClassId) (dI : Nat → Nat → Nat) (kA : Nat)  (i0 : Nat) (sk : Int32) (sv : Int32) (scl : Int32) (x : Int32) (a0 : Nat) (zk7 : ∃ k7 : Nat, k7 < 7 ∧ sk = nI k7) : Met l yX3_isOfKind wsX3_isOfKind ({ frames := 0, cells := 0, slots := 0, locals := 0 } : Room) (va_Pc [.ref a0, .int x] (fun U => Gn kA (fun _ => False) U ∧ Fz dC dI [(zo6iiii a0 sk (nI i0) sv scl)] [] (fun _ => False) U)) (vp_Si (fun r => (r = 1 ∧ isU sk x) ∨ (r = 0 ∧ ¬ isU sk x))) 0 0 (fun _ => False) := by
  refine met_ofQ (cc := cX3_isOfKind) (maxL := 4) (ret := (some .boolean)) (by decide) rfl ?_
  intro p e s m args below meth c s₁ Q B hml hv hQ
  obtain ⟨rfl, hN_, hZ⟩ := hv
  have hx := B.exec
  have hb := B.bytes
  have hr := B.returns
  have hts := atoms_spec (ws := wsX3_isOfKind) B.pre
  have hown : s.vm.findClass RX3 = some m.cls := findClass_of_methodNamed B.named
  have hlocks := B.notSynchronized
  obtain ⟨A, hAe⟩ : ∃ A : Nat → Prop, A = fun _ => False := ⟨_, rfl⟩
  rw [← hAe] at hQ hN_ hZ
  have hS : va_S A s.heap s.heap [] := va_S.rf
  have hl := lv_entry [.ref a0, .int x] (n := 4) (Nat.le_of_ble_eq_true rfl)
  rw [lg_entry_eq]
  generalize (lg_sl [.ref a0, .int x] ++ List.replicate (4 - (lg_sl [.ref a0, .int x]).length) Slot.unset).toArray = ls at hl ⊢
  generalize hag : ([.ref a0, .int x] : List Value).toArray = args at hts hQ ⊢
  have hl : lv_has ls 4 [(0, .ref a0), (1, .int x)] := hl
  rcases kd7 zk7 with rfl | rfl | rfl | rfl | rfl | rfl | rfl
  · skip
    refine lv_aload_n hx hb dX3_isOfKind_0 rfl (lv_at hl 0 rfl) ?_
    refine va_get (D := (dC, dI)) (ci := 6) (v := .int 0) (C := RX4) (T := TX4) (N := 4) hx hb hts kc_isOfKind_X4_1 hown hZ.2.1 (hZ.P hS) 0 rfl rfl 0 (by decide) (hts (.fieldLink RX3 9 "MistHeaps$Heap" "kind" "I") kc_isOfKind_X4_0) (fun _ h9 => h9) rfl dX3_isOfKind_1 ?_
    refine lv_istore_n (lv' := [(2, .int 0), (0, .ref a0), (1, .int x)]) hx hb dX3_isOfKind_4 rfl hl (by decide) rfl (fun ls hl => ?_)
    refine lv_iconst (v := 0) hx hb dX3_isOfKind_5 (by decide) ?_
    refine lv_istore_n (lv' := [(3, .int 0), (2, .int 0), (0, .ref a0), (1, .int x)]) hx hb dX3_isOfKind_6 rfl hl (by decide) rfl (fun ls hl => ?_)
    refine lv_iload_n hx hb dX3_isOfKind_7 rfl (lv_at hl 0 rfl) ?_
    refine lv_bipush (v := 7) hx hb dX3_isOfKind_8 (by decide) ?_
    refine lv_icmp_ge (tgt := 36) hx hb dX3_isOfKind_10 (by decide) (fun c_1 => absurd c_1 (by decide)) (fun _ => ?_)
    refine lv_iload_n hx hb dX3_isOfKind_13 rfl (lv_at hl 1 rfl) ?_
    refine lv_if_lt (tgt := 36) hx hb dX3_isOfKind_14 (by decide) (fun c_2 => absurd c_2 (by decide)) (fun _ => ?_)
    refine lv_iload_n hx hb dX3_isOfKind_17 rfl (lv_at hl 1 rfl) ?_
    refine lv_iload_n hx hb dX3_isOfKind_18 rfl (lv_at hl 3 rfl) ?_
    refine lv_icmp_ne (tgt := 24) hx hb dX3_isOfKind_19 (by decide) (fun c_3 => ?_) (fun c_3 => ?_)
    · skip
      refine va_getsN (C := "MistHeaps") (n := "KIND_ABOVE") (d := "[I") (v := .ref kA) hx hb hN_.2.1 hS hown (va_Nw.use rfl (hN_.1 (.fieldLinkNest RX3 24 "MistHeaps" "KIND_ABOVE" "[I" "MistHeaps") (by decide +kernel))) (fun _ h9 => h9) dX3_isOfKind_24 ?_
      refine lv_iload_n hx hb dX3_isOfKind_27 rfl (lv_at hl 1 rfl) ?_
      refine va_ti (v := .int (-1)) hx hb hN_.2.2 hS (vp_in_nI (n := 0) (N := 7) (by omega) (by omega)) rfl dX3_isOfKind_28 ?_
      refine lv_istore_n (lv' := [(2, .int (-1)), (3, .int 0), (0, .ref a0), (1, .int x)]) hx hb dX3_isOfKind_29 rfl hl (by decide) rfl (fun ls hl => ?_)
      refine lv_iinc (v := 1) (lv' := [(3, .int 1), (2, .int (-1)), (0, .ref a0), (1, .int x)]) hx hb dX3_isOfKind_30 hl (k := 1) rfl (by decide) (by decide) rfl (fun ls hl => ?_)
      refine lv_goto (tgt := 7) hx hb dX3_isOfKind_33 (by decide) ?_
      refine lv_iload_n hx hb dX3_isOfKind_7 rfl (lv_at hl 0 rfl) ?_
      refine lv_bipush (v := 7) hx hb dX3_isOfKind_8 (by decide) ?_
      refine lv_icmp_ge (tgt := 36) hx hb dX3_isOfKind_10 (by decide) (fun c_4 => absurd c_4 (by decide)) (fun _ => ?_)
      refine lv_iload_n hx hb dX3_isOfKind_13 rfl (lv_at hl 1 rfl) ?_
      refine lv_if_lt (tgt := 36) hx hb dX3_isOfKind_14 (by decide) (fun _ => ?_) (fun c_5 => absurd c_5 (by decide))
      refine lv_iconst (v := 0) hx hb dX3_isOfKind_36 (by decide) ?_
      rw [hQ]
      exact W.zret (v := 0) hx hb hr rfl (fun tQ htQ hWQ => ⟨0, rfl, Or.inr ⟨rfl, fun q => by rcases q with q9 | q9 | ⟨q9, q8⟩ | ⟨q9, q8⟩ | ⟨q9, q8⟩; exact c_3 q9.symm; exact c_3 q9.symm; exact absurd q8 (by decide); exact absurd q8 (by decide); exact absurd q8 (by decide)⟩, by rw [htQ]⟩) (fun q hq => absurd hq List.not_mem_nil) dX3_isOfKind_37
    · skip
      refine lv_iconst (v := 1) hx hb dX3_isOfKind_22 (by decide) ?_
      rw [hQ]
      exact W.zret (v := 1) hx hb hr rfl (fun tQ htQ hWQ => ⟨1, rfl, Or.inl ⟨rfl, by rw [← c_3]; decide⟩, by rw [htQ]⟩) (fun q hq => absurd hq List.not_mem_nil) dX3_isOfKind_23
  · skip
    refine lv_aload_n hx hb dX3_isOfKind_0 rfl (lv_at hl 0 rfl) ?_
    refine va_get (D := (dC, dI)) (ci := 6) (v := .int 1) (C := RX4) (T := TX4) (N := 4) hx hb hts kc_isOfKind_X4_1 hown hZ.2.1 (hZ.P hS) 0 rfl rfl 0 (by decide) (hts (.fieldLink RX3 9 "MistHeaps$Heap" "kind" "I") kc_isOfKind_X4_0) (fun _ h9 => h9) rfl dX3_isOfKind_1 ?_
    refine lv_istore_n (lv' := [(2, .int 1), (0, .ref a0), (1, .int x)]) hx hb dX3_isOfKind_4 rfl hl (by decide) rfl (fun ls hl => ?_)
    refine lv_iconst (v := 0) hx hb dX3_isOfKind_5 (by decide) ?_
    refine lv_istore_n (lv' := [(3, .int 0), (2, .int 1), (0, .ref a0), (1, .int x)]) hx hb dX3_isOfKind_6 rfl hl (by decide) rfl (fun ls hl => ?_)
    refine lv_iload_n hx hb dX3_isOfKind_7 rfl (lv_at hl 0 rfl) ?_
    refine lv_bipush (v := 7) hx hb dX3_isOfKind_8 (by decide) ?_
    refine lv_icmp_ge (tgt := 36) hx hb dX3_isOfKind_10 (by decide) (fun c_6 => absurd c_6 (by decide)) (fun _ => ?_)
    refine lv_iload_n hx hb dX3_isOfKind_13 rfl (lv_at hl 1 rfl) ?_
    refine lv_if_lt (tgt := 36) hx hb dX3_isOfKind_14 (by decide) (fun c_7 => absurd c_7 (by decide)) (fun _ => ?_)
    refine lv_iload_n hx hb dX3_isOfKind_17 rfl (lv_at hl 1 rfl) ?_
    refine lv_iload_n hx hb dX3_isOfKind_18 rfl (lv_at hl 3 rfl) ?_
    refine lv_icmp_ne (tgt := 24) hx hb dX3_isOfKind_19 (by decide) (fun c_8 => ?_) (fun c_8 => ?_)
    · skip
      refine va_getsN (C := "MistHeaps") (n := "KIND_ABOVE") (d := "[I") (v := .ref kA) hx hb hN_.2.1 hS hown (va_Nw.use rfl (hN_.1 (.fieldLinkNest RX3 24 "MistHeaps" "KIND_ABOVE" "[I" "MistHeaps") (by decide +kernel))) (fun _ h9 => h9) dX3_isOfKind_24 ?_
      refine lv_iload_n hx hb dX3_isOfKind_27 rfl (lv_at hl 1 rfl) ?_
      refine va_ti (v := .int 0) hx hb hN_.2.2 hS (vp_in_nI (n := 1) (N := 7) (by omega) (by omega)) rfl dX3_isOfKind_28 ?_
      refine lv_istore_n (lv' := [(2, .int 0), (3, .int 0), (0, .ref a0), (1, .int x)]) hx hb dX3_isOfKind_29 rfl hl (by decide) rfl (fun ls hl => ?_)
      refine lv_iinc (v := 1) (lv' := [(3, .int 1), (2, .int 0), (0, .ref a0), (1, .int x)]) hx hb dX3_isOfKind_30 hl (k := 1) rfl (by decide) (by decide) rfl (fun ls hl => ?_)
      refine lv_goto (tgt := 7) hx hb dX3_isOfKind_33 (by decide) ?_
      refine lv_iload_n hx hb dX3_isOfKind_7 rfl (lv_at hl 0 rfl) ?_
      refine lv_bipush (v := 7) hx hb dX3_isOfKind_8 (by decide) ?_
      refine lv_icmp_ge (tgt := 36) hx hb dX3_isOfKind_10 (by decide) (fun c_9 => absurd c_9 (by decide)) (fun _ => ?_)
      refine lv_iload_n hx hb dX3_isOfKind_13 rfl (lv_at hl 1 rfl) ?_
      refine lv_if_lt (tgt := 36) hx hb dX3_isOfKind_14 (by decide) (fun c_10 => absurd c_10 (by decide)) (fun _ => ?_)
      refine lv_iload_n hx hb dX3_isOfKind_17 rfl (lv_at hl 1 rfl) ?_
      refine lv_iload_n hx hb dX3_isOfKind_18 rfl (lv_at hl 3 rfl) ?_
      refine lv_icmp_ne (tgt := 24) hx hb dX3_isOfKind_19 (by decide) (fun c_11 => ?_) (fun c_11 => ?_)
      · skip
        refine va_getsN (C := "MistHeaps") (n := "KIND_ABOVE") (d := "[I") (v := .ref kA) hx hb hN_.2.1 hS hown (va_Nw.use rfl (hN_.1 (.fieldLinkNest RX3 24 "MistHeaps" "KIND_ABOVE" "[I" "MistHeaps") (by decide +kernel))) (fun _ h9 => h9) dX3_isOfKind_24 ?_
        refine lv_iload_n hx hb dX3_isOfKind_27 rfl (lv_at hl 1 rfl) ?_
        refine va_ti (v := .int (-1)) hx hb hN_.2.2 hS (vp_in_nI (n := 0) (N := 7) (by omega) (by omega)) rfl dX3_isOfKind_28 ?_
        refine lv_istore_n (lv' := [(2, .int (-1)), (3, .int 1), (0, .ref a0), (1, .int x)]) hx hb dX3_isOfKind_29 rfl hl (by decide) rfl (fun ls hl => ?_)
        refine lv_iinc (v := 2) (lv' := [(3, .int 2), (2, .int (-1)), (0, .ref a0), (1, .int x)]) hx hb dX3_isOfKind_30 hl (k := 1) rfl (by decide) (by decide) rfl (fun ls hl => ?_)
        refine lv_goto (tgt := 7) hx hb dX3_isOfKind_33 (by decide) ?_
        refine lv_iload_n hx hb dX3_isOfKind_7 rfl (lv_at hl 0 rfl) ?_
        refine lv_bipush (v := 7) hx hb dX3_isOfKind_8 (by decide) ?_
        refine lv_icmp_ge (tgt := 36) hx hb dX3_isOfKind_10 (by decide) (fun c_12 => absurd c_12 (by decide)) (fun _ => ?_)
        refine lv_iload_n hx hb dX3_isOfKind_13 rfl (lv_at hl 1 rfl) ?_
        refine lv_if_lt (tgt := 36) hx hb dX3_isOfKind_14 (by decide) (fun _ => ?_) (fun c_13 => absurd c_13 (by decide))
        refine lv_iconst (v := 0) hx hb dX3_isOfKind_36 (by decide) ?_
        rw [hQ]
        exact W.zret (v := 0) hx hb hr rfl (fun tQ htQ hWQ => ⟨0, rfl, Or.inr ⟨rfl, fun q => by rcases q with q9 | q9 | ⟨q9, q8⟩ | ⟨q9, q8⟩ | ⟨q9, q8⟩; exact c_11 q9.symm; exact c_8 q9.symm; exact absurd q8 (by decide); exact absurd q8 (by decide); exact absurd q8 (by decide)⟩, by rw [htQ]⟩) (fun q hq => absurd hq List.not_mem_nil) dX3_isOfKind_37
      · skip
        refine lv_iconst (v := 1) hx hb dX3_isOfKind_22 (by decide) ?_
        rw [hQ]
        exact W.zret (v := 1) hx hb hr rfl (fun tQ htQ hWQ => ⟨1, rfl, Or.inl ⟨rfl, by rw [← c_11]; decide⟩, by rw [htQ]⟩) (fun q hq => absurd hq List.not_mem_nil) dX3_isOfKind_23
    · skip
      refine lv_iconst (v := 1) hx hb dX3_isOfKind_22 (by decide) ?_
      rw [hQ]
      exact W.zret (v := 1) hx hb hr rfl (fun tQ htQ hWQ => ⟨1, rfl, Or.inl ⟨rfl, by rw [← c_8]; decide⟩, by rw [htQ]⟩) (fun q hq => absurd hq List.not_mem_nil) dX3_isOfKind_23
  · skip
    refine lv_aload_n hx hb dX3_isOfKind_0 rfl (lv_at hl 0 rfl) ?_
    refine va_get (D := (dC, dI)) (ci := 6) (v := .int 2) (C := RX4) (T := TX4) (N := 4) hx hb hts kc_isOfKind_X4_1 hown hZ.2.1 (hZ.P hS) 0 rfl rfl 0 (by decide) (hts (.fieldLink RX3 9 "MistHeaps$Heap" "kind" "I") kc_isOfKind_X4_0) (fun _ h9 => h9) rfl dX3_isOfKind_1 ?_
    refine lv_istore_n (lv' := [(2, .int 2), (0, .ref a0), (1, .int x)]) hx hb dX3_isOfKind_4 rfl hl (by decide) rfl (fun ls hl => ?_)
    refine lv_iconst (v := 0) hx hb dX3_isOfKind_5 (by decide) ?_
    refine lv_istore_n (lv' := [(3, .int 0), (2, .int 2), (0, .ref a0), (1, .int x)]) hx hb dX3_isOfKind_6 rfl hl (by decide) rfl (fun ls hl => ?_)
    refine lv_iload_n hx hb dX3_isOfKind_7 rfl (lv_at hl 0 rfl) ?_
    refine lv_bipush (v := 7) hx hb dX3_isOfKind_8 (by decide) ?_
    refine lv_icmp_ge (tgt := 36) hx hb dX3_isOfKind_10 (by decide) (fun c_14 => absurd c_14 (by decide)) (fun _ => ?_)
    refine lv_iload_n hx hb dX3_isOfKind_13 rfl (lv_at hl 1 rfl) ?_
    refine lv_if_lt (tgt := 36) hx hb dX3_isOfKind_14 (by decide) (fun c_15 => absurd c_15 (by decide)) (fun _ => ?_)
    refine lv_iload_n hx hb dX3_isOfKind_17 rfl (lv_at hl 1 rfl) ?_
    refine lv_iload_n hx hb dX3_isOfKind_18 rfl (lv_at hl 3 rfl) ?_
    refine lv_icmp_ne (tgt := 24) hx hb dX3_isOfKind_19 (by decide) (fun c_16 => ?_) (fun c_16 => ?_)
    · skip
      refine va_getsN (C := "MistHeaps") (n := "KIND_ABOVE") (d := "[I") (v := .ref kA) hx hb hN_.2.1 hS hown (va_Nw.use rfl (hN_.1 (.fieldLinkNest RX3 24 "MistHeaps" "KIND_ABOVE" "[I" "MistHeaps") (by decide +kernel))) (fun _ h9 => h9) dX3_isOfKind_24 ?_
      refine lv_iload_n hx hb dX3_isOfKind_27 rfl (lv_at hl 1 rfl) ?_
      refine va_ti (v := .int 0) hx hb hN_.2.2 hS (vp_in_nI (n := 2) (N := 7) (by omega) (by omega)) rfl dX3_isOfKind_28 ?_
      refine lv_istore_n (lv' := [(2, .int 0), (3, .int 0), (0, .ref a0), (1, .int x)]) hx hb dX3_isOfKind_29 rfl hl (by decide) rfl (fun ls hl => ?_)
      refine lv_iinc (v := 1) (lv' := [(3, .int 1), (2, .int 0), (0, .ref a0), (1, .int x)]) hx hb dX3_isOfKind_30 hl (k := 1) rfl (by decide) (by decide) rfl (fun ls hl => ?_)
      refine lv_goto (tgt := 7) hx hb dX3_isOfKind_33 (by decide) ?_
      refine lv_iload_n hx hb dX3_isOfKind_7 rfl (lv_at hl 0 rfl) ?_
      refine lv_bipush (v := 7) hx hb dX3_isOfKind_8 (by decide) ?_
      refine lv_icmp_ge (tgt := 36) hx hb dX3_isOfKind_10 (by decide) (fun c_17 => absurd c_17 (by decide)) (fun _ => ?_)
      refine lv_iload_n hx hb dX3_isOfKind_13 rfl (lv_at hl 1 rfl) ?_
      refine lv_if_lt (tgt := 36) hx hb dX3_isOfKind_14 (by decide) (fun c_18 => absurd c_18 (by decide)) (fun _ => ?_)
      refine lv_iload_n hx hb dX3_isOfKind_17 rfl (lv_at hl 1 rfl) ?_
      refine lv_iload_n hx hb dX3_isOfKind_18 rfl (lv_at hl 3 rfl) ?_
      refine lv_icmp_ne (tgt := 24) hx hb dX3_isOfKind_19 (by decide) (fun c_19 => ?_) (fun c_19 => ?_)
      · skip
        refine va_getsN (C := "MistHeaps") (n := "KIND_ABOVE") (d := "[I") (v := .ref kA) hx hb hN_.2.1 hS hown (va_Nw.use rfl (hN_.1 (.fieldLinkNest RX3 24 "MistHeaps" "KIND_ABOVE" "[I" "MistHeaps") (by decide +kernel))) (fun _ h9 => h9) dX3_isOfKind_24 ?_
        refine lv_iload_n hx hb dX3_isOfKind_27 rfl (lv_at hl 1 rfl) ?_
        refine va_ti (v := .int (-1)) hx hb hN_.2.2 hS (vp_in_nI (n := 0) (N := 7) (by omega) (by omega)) rfl dX3_isOfKind_28 ?_
        refine lv_istore_n (lv' := [(2, .int (-1)), (3, .int 1), (0, .ref a0), (1, .int x)]) hx hb dX3_isOfKind_29 rfl hl (by decide) rfl (fun ls hl => ?_)
        refine lv_iinc (v := 2) (lv' := [(3, .int 2), (2, .int (-1)), (0, .ref a0), (1, .int x)]) hx hb dX3_isOfKind_30 hl (k := 1) rfl (by decide) (by decide) rfl (fun ls hl => ?_)
        refine lv_goto (tgt := 7) hx hb dX3_isOfKind_33 (by decide) ?_
        refine lv_iload_n hx hb dX3_isOfKind_7 rfl (lv_at hl 0 rfl) ?_
        refine lv_bipush (v := 7) hx hb dX3_isOfKind_8 (by decide) ?_
        refine lv_icmp_ge (tgt := 36) hx hb dX3_isOfKind_10 (by decide) (fun c_20 => absurd c_20 (by decide)) (fun _ => ?_)
        refine lv_iload_n hx hb dX3_isOfKind_13 rfl (lv_at hl 1 rfl) ?_
        refine lv_if_lt (tgt := 36) hx hb dX3_isOfKind_14 (by decide) (fun _ => ?_) (fun c_21 => absurd c_21 (by decide))
        refine lv_iconst (v := 0) hx hb dX3_isOfKind_36 (by decide) ?_
        rw [hQ]
        exact W.zret (v := 0) hx hb hr rfl (fun tQ htQ hWQ => ⟨0, rfl, Or.inr ⟨rfl, fun q => by rcases q with q9 | q9 | ⟨q9, q8⟩ | ⟨q9, q8⟩ | ⟨q9, q8⟩; exact c_19 q9.symm; exact c_16 q9.symm; exact absurd q8 (by decide); exact absurd q8 (by decide); exact absurd q8 (by decide)⟩, by rw [htQ]⟩) (fun q hq => absurd hq List.not_mem_nil) dX3_isOfKind_37
      · skip
        refine lv_iconst (v := 1) hx hb dX3_isOfKind_22 (by decide) ?_
        rw [hQ]
        exact W.zret (v := 1) hx hb hr rfl (fun tQ htQ hWQ => ⟨1, rfl, Or.inl ⟨rfl, by rw [← c_19]; decide⟩, by rw [htQ]⟩) (fun q hq => absurd hq List.not_mem_nil) dX3_isOfKind_23
    · skip
      refine lv_iconst (v := 1) hx hb dX3_isOfKind_22 (by decide) ?_
      rw [hQ]
      exact W.zret (v := 1) hx hb hr rfl (fun tQ htQ hWQ => ⟨1, rfl, Or.inl ⟨rfl, by rw [← c_16]; decide⟩, by rw [htQ]⟩) (fun q hq => absurd hq List.not_mem_nil) dX3_isOfKind_23
  · skip
    refine lv_aload_n hx hb dX3_isOfKind_0 rfl (lv_at hl 0 rfl) ?_
    refine va_get (D := (dC, dI)) (ci := 6) (v := .int 3) (C := RX4) (T := TX4) (N := 4) hx hb hts kc_isOfKind_X4_1 hown hZ.2.1 (hZ.P hS) 0 rfl rfl 0 (by decide) (hts (.fieldLink RX3 9 "MistHeaps$Heap" "kind" "I") kc_isOfKind_X4_0) (fun _ h9 => h9) rfl dX3_isOfKind_1 ?_
    refine lv_istore_n (lv' := [(2, .int 3), (0, .ref a0), (1, .int x)]) hx hb dX3_isOfKind_4 rfl hl (by decide) rfl (fun ls hl => ?_)
    refine lv_iconst (v := 0) hx hb dX3_isOfKind_5 (by decide) ?_
    refine lv_istore_n (lv' := [(3, .int 0), (2, .int 3), (0, .ref a0), (1, .int x)]) hx hb dX3_isOfKind_6 rfl hl (by decide) rfl (fun ls hl => ?_)
    refine lv_iload_n hx hb dX3_isOfKind_7 rfl (lv_at hl 0 rfl) ?_
    refine lv_bipush (v := 7) hx hb dX3_isOfKind_8 (by decide) ?_
    refine lv_icmp_ge (tgt := 36) hx hb dX3_isOfKind_10 (by decide) (fun c_22 => absurd c_22 (by decide)) (fun _ => ?_)
    refine lv_iload_n hx hb dX3_isOfKind_13 rfl (lv_at hl 1 rfl) ?_
    refine lv_if_lt (tgt := 36) hx hb dX3_isOfKind_14 (by decide) (fun c_23 => absurd c_23 (by decide)) (fun _ => ?_)
    refine lv_iload_n hx hb dX3_isOfKind_17 rfl (lv_at hl 1 rfl) ?_
    refine lv_iload_n hx hb dX3_isOfKind_18 rfl (lv_at hl 3 rfl) ?_
    refine lv_icmp_ne (tgt := 24) hx hb dX3_isOfKind_19 (by decide) (fun c_24 => ?_) (fun c_24 => ?_)
    · skip
      refine va_getsN (C := "MistHeaps") (n := "KIND_ABOVE") (d := "[I") (v := .ref kA) hx hb hN_.2.1 hS hown (va_Nw.use rfl (hN_.1 (.fieldLinkNest RX3 24 "MistHeaps" "KIND_ABOVE" "[I" "MistHeaps") (by decide +kernel))) (fun _ h9 => h9) dX3_isOfKind_24 ?_
      refine lv_iload_n hx hb dX3_isOfKind_27 rfl (lv_at hl 1 rfl) ?_
      refine va_ti (v := .int 0) hx hb hN_.2.2 hS (vp_in_nI (n := 3) (N := 7) (by omega) (by omega)) rfl dX3_isOfKind_28 ?_
      refine lv_istore_n (lv' := [(2, .int 0), (3, .int 0), (0, .ref a0), (1, .int x)]) hx hb dX3_isOfKind_29 rfl hl (by decide) rfl (fun ls hl => ?_)
      refine lv_iinc (v := 1) (lv' := [(3, .int 1), (2, .int 0), (0, .ref a0), (1, .int x)]) hx hb dX3_isOfKind_30 hl (k := 1) rfl (by decide) (by decide) rfl (fun ls hl => ?_)
      refine lv_goto (tgt := 7) hx hb dX3_isOfKind_33 (by decide) ?_
      refine lv_iload_n hx hb dX3_isOfKind_7 rfl (lv_at hl 0 rfl) ?_
      refine lv_bipush (v := 7) hx hb dX3_isOfKind_8 (by decide) ?_
      refine lv_icmp_ge (tgt := 36) hx hb dX3_isOfKind_10 (by decide) (fun c_25 => absurd c_25 (by decide)) (fun _ => ?_)
      refine lv_iload_n hx hb dX3_isOfKind_13 rfl (lv_at hl 1 rfl) ?_
      refine lv_if_lt (tgt := 36) hx hb dX3_isOfKind_14 (by decide) (fun c_26 => absurd c_26 (by decide)) (fun _ => ?_)
      refine lv_iload_n hx hb dX3_isOfKind_17 rfl (lv_at hl 1 rfl) ?_
      refine lv_iload_n hx hb dX3_isOfKind_18 rfl (lv_at hl 3 rfl) ?_
      refine lv_icmp_ne (tgt := 24) hx hb dX3_isOfKind_19 (by decide) (fun c_27 => ?_) (fun c_27 => ?_)
      · skip
        refine va_getsN (C := "MistHeaps") (n := "KIND_ABOVE") (d := "[I") (v := .ref kA) hx hb hN_.2.1 hS hown (va_Nw.use rfl (hN_.1 (.fieldLinkNest RX3 24 "MistHeaps" "KIND_ABOVE" "[I" "MistHeaps") (by decide +kernel))) (fun _ h9 => h9) dX3_isOfKind_24 ?_
        refine lv_iload_n hx hb dX3_isOfKind_27 rfl (lv_at hl 1 rfl) ?_
        refine va_ti (v := .int (-1)) hx hb hN_.2.2 hS (vp_in_nI (n := 0) (N := 7) (by omega) (by omega)) rfl dX3_isOfKind_28 ?_
        refine lv_istore_n (lv' := [(2, .int (-1)), (3, .int 1), (0, .ref a0), (1, .int x)]) hx hb dX3_isOfKind_29 rfl hl (by decide) rfl (fun ls hl => ?_)
        refine lv_iinc (v := 2) (lv' := [(3, .int 2), (2, .int (-1)), (0, .ref a0), (1, .int x)]) hx hb dX3_isOfKind_30 hl (k := 1) rfl (by decide) (by decide) rfl (fun ls hl => ?_)
        refine lv_goto (tgt := 7) hx hb dX3_isOfKind_33 (by decide) ?_
        refine lv_iload_n hx hb dX3_isOfKind_7 rfl (lv_at hl 0 rfl) ?_
        refine lv_bipush (v := 7) hx hb dX3_isOfKind_8 (by decide) ?_
        refine lv_icmp_ge (tgt := 36) hx hb dX3_isOfKind_10 (by decide) (fun c_28 => absurd c_28 (by decide)) (fun _ => ?_)
        refine lv_iload_n hx hb dX3_isOfKind_13 rfl (lv_at hl 1 rfl) ?_
        refine lv_if_lt (tgt := 36) hx hb dX3_isOfKind_14 (by decide) (fun _ => ?_) (fun c_29 => absurd c_29 (by decide))
        refine lv_iconst (v := 0) hx hb dX3_isOfKind_36 (by decide) ?_
        rw [hQ]
        exact W.zret (v := 0) hx hb hr rfl (fun tQ htQ hWQ => ⟨0, rfl, Or.inr ⟨rfl, fun q => by rcases q with q9 | q9 | ⟨q9, q8⟩ | ⟨q9, q8⟩ | ⟨q9, q8⟩; exact c_27 q9.symm; exact c_24 q9.symm; exact absurd q8 (by decide); exact absurd q8 (by decide); exact absurd q8 (by decide)⟩, by rw [htQ]⟩) (fun q hq => absurd hq List.not_mem_nil) dX3_isOfKind_37
      · skip
        refine lv_iconst (v := 1) hx hb dX3_isOfKind_22 (by decide) ?_
        rw [hQ]
        exact W.zret (v := 1) hx hb hr rfl (fun tQ htQ hWQ => ⟨1, rfl, Or.inl ⟨rfl, by rw [← c_27]; decide⟩, by rw [htQ]⟩) (fun q hq => absurd hq List.not_mem_nil) dX3_isOfKind_23
    · skip
      refine lv_iconst (v := 1) hx hb dX3_isOfKind_22 (by decide) ?_
      rw [hQ]
      exact W.zret (v := 1) hx hb hr rfl (fun tQ htQ hWQ => ⟨1, rfl, Or.inl ⟨rfl, by rw [← c_24]; decide⟩, by rw [htQ]⟩) (fun q hq => absurd hq List.not_mem_nil) dX3_isOfKind_23
  · skip
    refine lv_aload_n hx hb dX3_isOfKind_0 rfl (lv_at hl 0 rfl) ?_
    refine va_get (D := (dC, dI)) (ci := 6) (v := .int 4) (C := RX4) (T := TX4) (N := 4) hx hb hts kc_isOfKind_X4_1 hown hZ.2.1 (hZ.P hS) 0 rfl rfl 0 (by decide) (hts (.fieldLink RX3 9 "MistHeaps$Heap" "kind" "I") kc_isOfKind_X4_0) (fun _ h9 => h9) rfl dX3_isOfKind_1 ?_
    refine lv_istore_n (lv' := [(2, .int 4), (0, .ref a0), (1, .int x)]) hx hb dX3_isOfKind_4 rfl hl (by decide) rfl (fun ls hl => ?_)
    refine lv_iconst (v := 0) hx hb dX3_isOfKind_5 (by decide) ?_
    refine lv_istore_n (lv' := [(3, .int 0), (2, .int 4), (0, .ref a0), (1, .int x)]) hx hb dX3_isOfKind_6 rfl hl (by decide) rfl (fun ls hl => ?_)
    refine lv_iload_n hx hb dX3_isOfKind_7 rfl (lv_at hl 0 rfl) ?_
    refine lv_bipush (v := 7) hx hb dX3_isOfKind_8 (by decide) ?_
    refine lv_icmp_ge (tgt := 36) hx hb dX3_isOfKind_10 (by decide) (fun c_30 => absurd c_30 (by decide)) (fun _ => ?_)
    refine lv_iload_n hx hb dX3_isOfKind_13 rfl (lv_at hl 1 rfl) ?_
    refine lv_if_lt (tgt := 36) hx hb dX3_isOfKind_14 (by decide) (fun c_31 => absurd c_31 (by decide)) (fun _ => ?_)
    refine lv_iload_n hx hb dX3_isOfKind_17 rfl (lv_at hl 1 rfl) ?_
    refine lv_iload_n hx hb dX3_isOfKind_18 rfl (lv_at hl 3 rfl) ?_
    refine lv_icmp_ne (tgt := 24) hx hb dX3_isOfKind_19 (by decide) (fun c_32 => ?_) (fun c_32 => ?_)
    · skip
      refine va_getsN (C := "MistHeaps") (n := "KIND_ABOVE") (d := "[I") (v := .ref kA) hx hb hN_.2.1 hS hown (va_Nw.use rfl (hN_.1 (.fieldLinkNest RX3 24 "MistHeaps" "KIND_ABOVE" "[I" "MistHeaps") (by decide +kernel))) (fun _ h9 => h9) dX3_isOfKind_24 ?_
      refine lv_iload_n hx hb dX3_isOfKind_27 rfl (lv_at hl 1 rfl) ?_
      refine va_ti (v := .int 1) hx hb hN_.2.2 hS (vp_in_nI (n := 4) (N := 7) (by omega) (by omega)) rfl dX3_isOfKind_28 ?_
      refine lv_istore_n (lv' := [(2, .int 1), (3, .int 0), (0, .ref a0), (1, .int x)]) hx hb dX3_isOfKind_29 rfl hl (by decide) rfl (fun ls hl => ?_)
      refine lv_iinc (v := 1) (lv' := [(3, .int 1), (2, .int 1), (0, .ref a0), (1, .int x)]) hx hb dX3_isOfKind_30 hl (k := 1) rfl (by decide) (by decide) rfl (fun ls hl => ?_)
      refine lv_goto (tgt := 7) hx hb dX3_isOfKind_33 (by decide) ?_
      refine lv_iload_n hx hb dX3_isOfKind_7 rfl (lv_at hl 0 rfl) ?_
      refine lv_bipush (v := 7) hx hb dX3_isOfKind_8 (by decide) ?_
      refine lv_icmp_ge (tgt := 36) hx hb dX3_isOfKind_10 (by decide) (fun c_33 => absurd c_33 (by decide)) (fun _ => ?_)
      refine lv_iload_n hx hb dX3_isOfKind_13 rfl (lv_at hl 1 rfl) ?_
      refine lv_if_lt (tgt := 36) hx hb dX3_isOfKind_14 (by decide) (fun c_34 => absurd c_34 (by decide)) (fun _ => ?_)
      refine lv_iload_n hx hb dX3_isOfKind_17 rfl (lv_at hl 1 rfl) ?_
      refine lv_iload_n hx hb dX3_isOfKind_18 rfl (lv_at hl 3 rfl) ?_
      refine lv_icmp_ne (tgt := 24) hx hb dX3_isOfKind_19 (by decide) (fun c_35 => ?_) (fun c_35 => ?_)
      · skip
        refine va_getsN (C := "MistHeaps") (n := "KIND_ABOVE") (d := "[I") (v := .ref kA) hx hb hN_.2.1 hS hown (va_Nw.use rfl (hN_.1 (.fieldLinkNest RX3 24 "MistHeaps" "KIND_ABOVE" "[I" "MistHeaps") (by decide +kernel))) (fun _ h9 => h9) dX3_isOfKind_24 ?_
        refine lv_iload_n hx hb dX3_isOfKind_27 rfl (lv_at hl 1 rfl) ?_
        refine va_ti (v := .int 0) hx hb hN_.2.2 hS (vp_in_nI (n := 1) (N := 7) (by omega) (by omega)) rfl dX3_isOfKind_28 ?_
        refine lv_istore_n (lv' := [(2, .int 0), (3, .int 1), (0, .ref a0), (1, .int x)]) hx hb dX3_isOfKind_29 rfl hl (by decide) rfl (fun ls hl => ?_)
        refine lv_iinc (v := 2) (lv' := [(3, .int 2), (2, .int 0), (0, .ref a0), (1, .int x)]) hx hb dX3_isOfKind_30 hl (k := 1) rfl (by decide) (by decide) rfl (fun ls hl => ?_)
        refine lv_goto (tgt := 7) hx hb dX3_isOfKind_33 (by decide) ?_
        refine lv_iload_n hx hb dX3_isOfKind_7 rfl (lv_at hl 0 rfl) ?_
        refine lv_bipush (v := 7) hx hb dX3_isOfKind_8 (by decide) ?_
        refine lv_icmp_ge (tgt := 36) hx hb dX3_isOfKind_10 (by decide) (fun c_36 => absurd c_36 (by decide)) (fun _ => ?_)
        refine lv_iload_n hx hb dX3_isOfKind_13 rfl (lv_at hl 1 rfl) ?_
        refine lv_if_lt (tgt := 36) hx hb dX3_isOfKind_14 (by decide) (fun c_37 => absurd c_37 (by decide)) (fun _ => ?_)
        refine lv_iload_n hx hb dX3_isOfKind_17 rfl (lv_at hl 1 rfl) ?_
        refine lv_iload_n hx hb dX3_isOfKind_18 rfl (lv_at hl 3 rfl) ?_
        refine lv_icmp_ne (tgt := 24) hx hb dX3_isOfKind_19 (by decide) (fun c_38 => ?_) (fun c_38 => ?_)
        · skip
          refine va_getsN (C := "MistHeaps") (n := "KIND_ABOVE") (d := "[I") (v := .ref kA) hx hb hN_.2.1 hS hown (va_Nw.use rfl (hN_.1 (.fieldLinkNest RX3 24 "MistHeaps" "KIND_ABOVE" "[I" "MistHeaps") (by decide +kernel))) (fun _ h9 => h9) dX3_isOfKind_24 ?_
          refine lv_iload_n hx hb dX3_isOfKind_27 rfl (lv_at hl 1 rfl) ?_
          refine va_ti (v := .int (-1)) hx hb hN_.2.2 hS (vp_in_nI (n := 0) (N := 7) (by omega) (by omega)) rfl dX3_isOfKind_28 ?_
          refine lv_istore_n (lv' := [(2, .int (-1)), (3, .int 2), (0, .ref a0), (1, .int x)]) hx hb dX3_isOfKind_29 rfl hl (by decide) rfl (fun ls hl => ?_)
          refine lv_iinc (v := 3) (lv' := [(3, .int 3), (2, .int (-1)), (0, .ref a0), (1, .int x)]) hx hb dX3_isOfKind_30 hl (k := 1) rfl (by decide) (by decide) rfl (fun ls hl => ?_)
          refine lv_goto (tgt := 7) hx hb dX3_isOfKind_33 (by decide) ?_
          refine lv_iload_n hx hb dX3_isOfKind_7 rfl (lv_at hl 0 rfl) ?_
          refine lv_bipush (v := 7) hx hb dX3_isOfKind_8 (by decide) ?_
          refine lv_icmp_ge (tgt := 36) hx hb dX3_isOfKind_10 (by decide) (fun c_39 => absurd c_39 (by decide)) (fun _ => ?_)
          refine lv_iload_n hx hb dX3_isOfKind_13 rfl (lv_at hl 1 rfl) ?_
          refine lv_if_lt (tgt := 36) hx hb dX3_isOfKind_14 (by decide) (fun _ => ?_) (fun c_40 => absurd c_40 (by decide))
          refine lv_iconst (v := 0) hx hb dX3_isOfKind_36 (by decide) ?_
          rw [hQ]
          exact W.zret (v := 0) hx hb hr rfl (fun tQ htQ hWQ => ⟨0, rfl, Or.inr ⟨rfl, fun q => by rcases q with q9 | q9 | ⟨q9, q8⟩ | ⟨q9, q8⟩ | ⟨q9, q8⟩; exact c_38 q9.symm; exact c_32 q9.symm; exact c_35 q9.symm; exact absurd q8 (by decide); exact absurd q8 (by decide)⟩, by rw [htQ]⟩) (fun q hq => absurd hq List.not_mem_nil) dX3_isOfKind_37
        · skip
          refine lv_iconst (v := 1) hx hb dX3_isOfKind_22 (by decide) ?_
          rw [hQ]
          exact W.zret (v := 1) hx hb hr rfl (fun tQ htQ hWQ => ⟨1, rfl, Or.inl ⟨rfl, by rw [← c_38]; decide⟩, by rw [htQ]⟩) (fun q hq => absurd hq List.not_mem_nil) dX3_isOfKind_23
      · skip
        refine lv_iconst (v := 1) hx hb dX3_isOfKind_22 (by decide) ?_
        rw [hQ]
        exact W.zret (v := 1) hx hb hr rfl (fun tQ htQ hWQ => ⟨1, rfl, Or.inl ⟨rfl, by rw [← c_35]; decide⟩, by rw [htQ]⟩) (fun q hq => absurd hq List.not_mem_nil) dX3_isOfKind_23
    · skip
      refine lv_iconst (v := 1) hx hb dX3_isOfKind_22 (by decide) ?_
      rw [hQ]
      exact W.zret (v := 1) hx hb hr rfl (fun tQ htQ hWQ => ⟨1, rfl, Or.inl ⟨rfl, by rw [← c_32]; decide⟩, by rw [htQ]⟩) (fun q hq => absurd hq List.not_mem_nil) dX3_isOfKind_23
  · skip
    refine lv_aload_n hx hb dX3_isOfKind_0 rfl (lv_at hl 0 rfl) ?_
    refine va_get (D := (dC, dI)) (ci := 6) (v := .int 5) (C := RX4) (T := TX4) (N := 4) hx hb hts kc_isOfKind_X4_1 hown hZ.2.1 (hZ.P hS) 0 rfl rfl 0 (by decide) (hts (.fieldLink RX3 9 "MistHeaps$Heap" "kind" "I") kc_isOfKind_X4_0) (fun _ h9 => h9) rfl dX3_isOfKind_1 ?_
    refine lv_istore_n (lv' := [(2, .int 5), (0, .ref a0), (1, .int x)]) hx hb dX3_isOfKind_4 rfl hl (by decide) rfl (fun ls hl => ?_)
    refine lv_iconst (v := 0) hx hb dX3_isOfKind_5 (by decide) ?_
    refine lv_istore_n (lv' := [(3, .int 0), (2, .int 5), (0, .ref a0), (1, .int x)]) hx hb dX3_isOfKind_6 rfl hl (by decide) rfl (fun ls hl => ?_)
    refine lv_iload_n hx hb dX3_isOfKind_7 rfl (lv_at hl 0 rfl) ?_
    refine lv_bipush (v := 7) hx hb dX3_isOfKind_8 (by decide) ?_
    refine lv_icmp_ge (tgt := 36) hx hb dX3_isOfKind_10 (by decide) (fun c_41 => absurd c_41 (by decide)) (fun _ => ?_)
    refine lv_iload_n hx hb dX3_isOfKind_13 rfl (lv_at hl 1 rfl) ?_
    refine lv_if_lt (tgt := 36) hx hb dX3_isOfKind_14 (by decide) (fun c_42 => absurd c_42 (by decide)) (fun _ => ?_)
    refine lv_iload_n hx hb dX3_isOfKind_17 rfl (lv_at hl 1 rfl) ?_
    refine lv_iload_n hx hb dX3_isOfKind_18 rfl (lv_at hl 3 rfl) ?_
    refine lv_icmp_ne (tgt := 24) hx hb dX3_isOfKind_19 (by decide) (fun c_43 => ?_) (fun c_43 => ?_)
    · skip
      refine va_getsN (C := "MistHeaps") (n := "KIND_ABOVE") (d := "[I") (v := .ref kA) hx hb hN_.2.1 hS hown (va_Nw.use rfl (hN_.1 (.fieldLinkNest RX3 24 "MistHeaps" "KIND_ABOVE" "[I" "MistHeaps") (by decide +kernel))) (fun _ h9 => h9) dX3_isOfKind_24 ?_
      refine lv_iload_n hx hb dX3_isOfKind_27 rfl (lv_at hl 1 rfl) ?_
      refine va_ti (v := .int 2) hx hb hN_.2.2 hS (vp_in_nI (n := 5) (N := 7) (by omega) (by omega)) rfl dX3_isOfKind_28 ?_
      refine lv_istore_n (lv' := [(2, .int 2), (3, .int 0), (0, .ref a0), (1, .int x)]) hx hb dX3_isOfKind_29 rfl hl (by decide) rfl (fun ls hl => ?_)
      refine lv_iinc (v := 1) (lv' := [(3, .int 1), (2, .int 2), (0, .ref a0), (1, .int x)]) hx hb dX3_isOfKind_30 hl (k := 1) rfl (by decide) (by decide) rfl (fun ls hl => ?_)
      refine lv_goto (tgt := 7) hx hb dX3_isOfKind_33 (by decide) ?_
      refine lv_iload_n hx hb dX3_isOfKind_7 rfl (lv_at hl 0 rfl) ?_
      refine lv_bipush (v := 7) hx hb dX3_isOfKind_8 (by decide) ?_
      refine lv_icmp_ge (tgt := 36) hx hb dX3_isOfKind_10 (by decide) (fun c_44 => absurd c_44 (by decide)) (fun _ => ?_)
      refine lv_iload_n hx hb dX3_isOfKind_13 rfl (lv_at hl 1 rfl) ?_
      refine lv_if_lt (tgt := 36) hx hb dX3_isOfKind_14 (by decide) (fun c_45 => absurd c_45 (by decide)) (fun _ => ?_)
      refine lv_iload_n hx hb dX3_isOfKind_17 rfl (lv_at hl 1 rfl) ?_
      refine lv_iload_n hx hb dX3_isOfKind_18 rfl (lv_at hl 3 rfl) ?_
      refine lv_icmp_ne (tgt := 24) hx hb dX3_isOfKind_19 (by decide) (fun c_46 => ?_) (fun c_46 => ?_)
      · skip
        refine va_getsN (C := "MistHeaps") (n := "KIND_ABOVE") (d := "[I") (v := .ref kA) hx hb hN_.2.1 hS hown (va_Nw.use rfl (hN_.1 (.fieldLinkNest RX3 24 "MistHeaps" "KIND_ABOVE" "[I" "MistHeaps") (by decide +kernel))) (fun _ h9 => h9) dX3_isOfKind_24 ?_
        refine lv_iload_n hx hb dX3_isOfKind_27 rfl (lv_at hl 1 rfl) ?_
        refine va_ti (v := .int 0) hx hb hN_.2.2 hS (vp_in_nI (n := 2) (N := 7) (by omega) (by omega)) rfl dX3_isOfKind_28 ?_
        refine lv_istore_n (lv' := [(2, .int 0), (3, .int 1), (0, .ref a0), (1, .int x)]) hx hb dX3_isOfKind_29 rfl hl (by decide) rfl (fun ls hl => ?_)
        refine lv_iinc (v := 2) (lv' := [(3, .int 2), (2, .int 0), (0, .ref a0), (1, .int x)]) hx hb dX3_isOfKind_30 hl (k := 1) rfl (by decide) (by decide) rfl (fun ls hl => ?_)
        refine lv_goto (tgt := 7) hx hb dX3_isOfKind_33 (by decide) ?_
        refine lv_iload_n hx hb dX3_isOfKind_7 rfl (lv_at hl 0 rfl) ?_
        refine lv_bipush (v := 7) hx hb dX3_isOfKind_8 (by decide) ?_
        refine lv_icmp_ge (tgt := 36) hx hb dX3_isOfKind_10 (by decide) (fun c_47 => absurd c_47 (by decide)) (fun _ => ?_)
        refine lv_iload_n hx hb dX3_isOfKind_13 rfl (lv_at hl 1 rfl) ?_
        refine lv_if_lt (tgt := 36) hx hb dX3_isOfKind_14 (by decide) (fun c_48 => absurd c_48 (by decide)) (fun _ => ?_)
        refine lv_iload_n hx hb dX3_isOfKind_17 rfl (lv_at hl 1 rfl) ?_
        refine lv_iload_n hx hb dX3_isOfKind_18 rfl (lv_at hl 3 rfl) ?_
        refine lv_icmp_ne (tgt := 24) hx hb dX3_isOfKind_19 (by decide) (fun c_49 => ?_) (fun c_49 => ?_)
        · skip
          refine va_getsN (C := "MistHeaps") (n := "KIND_ABOVE") (d := "[I") (v := .ref kA) hx hb hN_.2.1 hS hown (va_Nw.use rfl (hN_.1 (.fieldLinkNest RX3 24 "MistHeaps" "KIND_ABOVE" "[I" "MistHeaps") (by decide +kernel))) (fun _ h9 => h9) dX3_isOfKind_24 ?_
          refine lv_iload_n hx hb dX3_isOfKind_27 rfl (lv_at hl 1 rfl) ?_
          refine va_ti (v := .int (-1)) hx hb hN_.2.2 hS (vp_in_nI (n := 0) (N := 7) (by omega) (by omega)) rfl dX3_isOfKind_28 ?_
          refine lv_istore_n (lv' := [(2, .int (-1)), (3, .int 2), (0, .ref a0), (1, .int x)]) hx hb dX3_isOfKind_29 rfl hl (by decide) rfl (fun ls hl => ?_)
          refine lv_iinc (v := 3) (lv' := [(3, .int 3), (2, .int (-1)), (0, .ref a0), (1, .int x)]) hx hb dX3_isOfKind_30 hl (k := 1) rfl (by decide) (by decide) rfl (fun ls hl => ?_)
          refine lv_goto (tgt := 7) hx hb dX3_isOfKind_33 (by decide) ?_
          refine lv_iload_n hx hb dX3_isOfKind_7 rfl (lv_at hl 0 rfl) ?_
          refine lv_bipush (v := 7) hx hb dX3_isOfKind_8 (by decide) ?_
          refine lv_icmp_ge (tgt := 36) hx hb dX3_isOfKind_10 (by decide) (fun c_50 => absurd c_50 (by decide)) (fun _ => ?_)
          refine lv_iload_n hx hb dX3_isOfKind_13 rfl (lv_at hl 1 rfl) ?_
          refine lv_if_lt (tgt := 36) hx hb dX3_isOfKind_14 (by decide) (fun _ => ?_) (fun c_51 => absurd c_51 (by decide))
          refine lv_iconst (v := 0) hx hb dX3_isOfKind_36 (by decide) ?_
          rw [hQ]
          exact W.zret (v := 0) hx hb hr rfl (fun tQ htQ hWQ => ⟨0, rfl, Or.inr ⟨rfl, fun q => by rcases q with q9 | q9 | ⟨q9, q8⟩ | ⟨q9, q8⟩ | ⟨q9, q8⟩; exact c_49 q9.symm; exact c_43 q9.symm; exact absurd q8 (by decide); exact c_46 q9.symm; exact absurd q8 (by decide)⟩, by rw [htQ]⟩) (fun q hq => absurd hq List.not_mem_nil) dX3_isOfKind_37
        · skip
          refine lv_iconst (v := 1) hx hb dX3_isOfKind_22 (by decide) ?_
          rw [hQ]
          exact W.zret (v := 1) hx hb hr rfl (fun tQ htQ hWQ => ⟨1, rfl, Or.inl ⟨rfl, by rw [← c_49]; decide⟩, by rw [htQ]⟩) (fun q hq => absurd hq List.not_mem_nil) dX3_isOfKind_23
      · skip
        refine lv_iconst (v := 1) hx hb dX3_isOfKind_22 (by decide) ?_
        rw [hQ]
        exact W.zret (v := 1) hx hb hr rfl (fun tQ htQ hWQ => ⟨1, rfl, Or.inl ⟨rfl, by rw [← c_46]; decide⟩, by rw [htQ]⟩) (fun q hq => absurd hq List.not_mem_nil) dX3_isOfKind_23
    · skip
      refine lv_iconst (v := 1) hx hb dX3_isOfKind_22 (by decide) ?_
      rw [hQ]
      exact W.zret (v := 1) hx hb hr rfl (fun tQ htQ hWQ => ⟨1, rfl, Or.inl ⟨rfl, by rw [← c_43]; decide⟩, by rw [htQ]⟩) (fun q hq => absurd hq List.not_mem_nil) dX3_isOfKind_23
  · skip
    refine lv_aload_n hx hb dX3_isOfKind_0 rfl (lv_at hl 0 rfl) ?_
    refine va_get (D := (dC, dI)) (ci := 6) (v := .int 6) (C := RX4) (T := TX4) (N := 4) hx hb hts kc_isOfKind_X4_1 hown hZ.2.1 (hZ.P hS) 0 rfl rfl 0 (by decide) (hts (.fieldLink RX3 9 "MistHeaps$Heap" "kind" "I") kc_isOfKind_X4_0) (fun _ h9 => h9) rfl dX3_isOfKind_1 ?_
    refine lv_istore_n (lv' := [(2, .int 6), (0, .ref a0), (1, .int x)]) hx hb dX3_isOfKind_4 rfl hl (by decide) rfl (fun ls hl => ?_)
    refine lv_iconst (v := 0) hx hb dX3_isOfKind_5 (by decide) ?_
    refine lv_istore_n (lv' := [(3, .int 0), (2, .int 6), (0, .ref a0), (1, .int x)]) hx hb dX3_isOfKind_6 rfl hl (by decide) rfl (fun ls hl => ?_)
    refine lv_iload_n hx hb dX3_isOfKind_7 rfl (lv_at hl 0 rfl) ?_
    refine lv_bipush (v := 7) hx hb dX3_isOfKind_8 (by decide) ?_
    refine lv_icmp_ge (tgt := 36) hx hb dX3_isOfKind_10 (by decide) (fun c_52 => absurd c_52 (by decide)) (fun _ => ?_)
    refine lv_iload_n hx hb dX3_isOfKind_13 rfl (lv_at hl 1 rfl) ?_
    refine lv_if_lt (tgt := 36) hx hb dX3_isOfKind_14 (by decide) (fun c_53 => absurd c_53 (by decide)) (fun _ => ?_)
    refine lv_iload_n hx hb dX3_isOfKind_17 rfl (lv_at hl 1 rfl) ?_
    refine lv_iload_n hx hb dX3_isOfKind_18 rfl (lv_at hl 3 rfl) ?_
    refine lv_icmp_ne (tgt := 24) hx hb dX3_isOfKind_19 (by decide) (fun c_54 => ?_) (fun c_54 => ?_)
    · skip
      refine va_getsN (C := "MistHeaps") (n := "KIND_ABOVE") (d := "[I") (v := .ref kA) hx hb hN_.2.1 hS hown (va_Nw.use rfl (hN_.1 (.fieldLinkNest RX3 24 "MistHeaps" "KIND_ABOVE" "[I" "MistHeaps") (by decide +kernel))) (fun _ h9 => h9) dX3_isOfKind_24 ?_
      refine lv_iload_n hx hb dX3_isOfKind_27 rfl (lv_at hl 1 rfl) ?_
      refine va_ti (v := .int 3) hx hb hN_.2.2 hS (vp_in_nI (n := 6) (N := 7) (by omega) (by omega)) rfl dX3_isOfKind_28 ?_
      refine lv_istore_n (lv' := [(2, .int 3), (3, .int 0), (0, .ref a0), (1, .int x)]) hx hb dX3_isOfKind_29 rfl hl (by decide) rfl (fun ls hl => ?_)
      refine lv_iinc (v := 1) (lv' := [(3, .int 1), (2, .int 3), (0, .ref a0), (1, .int x)]) hx hb dX3_isOfKind_30 hl (k := 1) rfl (by decide) (by decide) rfl (fun ls hl => ?_)
      refine lv_goto (tgt := 7) hx hb dX3_isOfKind_33 (by decide) ?_
      refine lv_iload_n hx hb dX3_isOfKind_7 rfl (lv_at hl 0 rfl) ?_
      refine lv_bipush (v := 7) hx hb dX3_isOfKind_8 (by decide) ?_
      refine lv_icmp_ge (tgt := 36) hx hb dX3_isOfKind_10 (by decide) (fun c_55 => absurd c_55 (by decide)) (fun _ => ?_)
      refine lv_iload_n hx hb dX3_isOfKind_13 rfl (lv_at hl 1 rfl) ?_
      refine lv_if_lt (tgt := 36) hx hb dX3_isOfKind_14 (by decide) (fun c_56 => absurd c_56 (by decide)) (fun _ => ?_)
      refine lv_iload_n hx hb dX3_isOfKind_17 rfl (lv_at hl 1 rfl) ?_
      refine lv_iload_n hx hb dX3_isOfKind_18 rfl (lv_at hl 3 rfl) ?_
      refine lv_icmp_ne (tgt := 24) hx hb dX3_isOfKind_19 (by decide) (fun c_57 => ?_) (fun c_57 => ?_)
      · skip
        refine va_getsN (C := "MistHeaps") (n := "KIND_ABOVE") (d := "[I") (v := .ref kA) hx hb hN_.2.1 hS hown (va_Nw.use rfl (hN_.1 (.fieldLinkNest RX3 24 "MistHeaps" "KIND_ABOVE" "[I" "MistHeaps") (by decide +kernel))) (fun _ h9 => h9) dX3_isOfKind_24 ?_
        refine lv_iload_n hx hb dX3_isOfKind_27 rfl (lv_at hl 1 rfl) ?_
        refine va_ti (v := .int 0) hx hb hN_.2.2 hS (vp_in_nI (n := 3) (N := 7) (by omega) (by omega)) rfl dX3_isOfKind_28 ?_
        refine lv_istore_n (lv' := [(2, .int 0), (3, .int 1), (0, .ref a0), (1, .int x)]) hx hb dX3_isOfKind_29 rfl hl (by decide) rfl (fun ls hl => ?_)
        refine lv_iinc (v := 2) (lv' := [(3, .int 2), (2, .int 0), (0, .ref a0), (1, .int x)]) hx hb dX3_isOfKind_30 hl (k := 1) rfl (by decide) (by decide) rfl (fun ls hl => ?_)
        refine lv_goto (tgt := 7) hx hb dX3_isOfKind_33 (by decide) ?_
        refine lv_iload_n hx hb dX3_isOfKind_7 rfl (lv_at hl 0 rfl) ?_
        refine lv_bipush (v := 7) hx hb dX3_isOfKind_8 (by decide) ?_
        refine lv_icmp_ge (tgt := 36) hx hb dX3_isOfKind_10 (by decide) (fun c_58 => absurd c_58 (by decide)) (fun _ => ?_)
        refine lv_iload_n hx hb dX3_isOfKind_13 rfl (lv_at hl 1 rfl) ?_
        refine lv_if_lt (tgt := 36) hx hb dX3_isOfKind_14 (by decide) (fun c_59 => absurd c_59 (by decide)) (fun _ => ?_)
        refine lv_iload_n hx hb dX3_isOfKind_17 rfl (lv_at hl 1 rfl) ?_
        refine lv_iload_n hx hb dX3_isOfKind_18 rfl (lv_at hl 3 rfl) ?_
        refine lv_icmp_ne (tgt := 24) hx hb dX3_isOfKind_19 (by decide) (fun c_60 => ?_) (fun c_60 => ?_)
        · skip
          refine va_getsN (C := "MistHeaps") (n := "KIND_ABOVE") (d := "[I") (v := .ref kA) hx hb hN_.2.1 hS hown (va_Nw.use rfl (hN_.1 (.fieldLinkNest RX3 24 "MistHeaps" "KIND_ABOVE" "[I" "MistHeaps") (by decide +kernel))) (fun _ h9 => h9) dX3_isOfKind_24 ?_
          refine lv_iload_n hx hb dX3_isOfKind_27 rfl (lv_at hl 1 rfl) ?_
          refine va_ti (v := .int (-1)) hx hb hN_.2.2 hS (vp_in_nI (n := 0) (N := 7) (by omega) (by omega)) rfl dX3_isOfKind_28 ?_
          refine lv_istore_n (lv' := [(2, .int (-1)), (3, .int 2), (0, .ref a0), (1, .int x)]) hx hb dX3_isOfKind_29 rfl hl (by decide) rfl (fun ls hl => ?_)
          refine lv_iinc (v := 3) (lv' := [(3, .int 3), (2, .int (-1)), (0, .ref a0), (1, .int x)]) hx hb dX3_isOfKind_30 hl (k := 1) rfl (by decide) (by decide) rfl (fun ls hl => ?_)
          refine lv_goto (tgt := 7) hx hb dX3_isOfKind_33 (by decide) ?_
          refine lv_iload_n hx hb dX3_isOfKind_7 rfl (lv_at hl 0 rfl) ?_
          refine lv_bipush (v := 7) hx hb dX3_isOfKind_8 (by decide) ?_
          refine lv_icmp_ge (tgt := 36) hx hb dX3_isOfKind_10 (by decide) (fun c_61 => absurd c_61 (by decide)) (fun _ => ?_)
          refine lv_iload_n hx hb dX3_isOfKind_13 rfl (lv_at hl 1 rfl) ?_
          refine lv_if_lt (tgt := 36) hx hb dX3_isOfKind_14 (by decide) (fun _ => ?_) (fun c_62 => absurd c_62 (by decide))
          refine lv_iconst (v := 0) hx hb dX3_isOfKind_36 (by decide) ?_
          rw [hQ]
          exact W.zret (v := 0) hx hb hr rfl (fun tQ htQ hWQ => ⟨0, rfl, Or.inr ⟨rfl, fun q => by rcases q with q9 | q9 | ⟨q9, q8⟩ | ⟨q9, q8⟩ | ⟨q9, q8⟩; exact c_60 q9.symm; exact c_54 q9.symm; exact absurd q8 (by decide); exact absurd q8 (by decide); exact c_57 q9.symm⟩, by rw [htQ]⟩) (fun q hq => absurd hq List.not_mem_nil) dX3_isOfKind_37
        · skip
          refine lv_iconst (v := 1) hx hb dX3_isOfKind_22 (by decide) ?_
          rw [hQ]
          exact W.zret (v := 1) hx hb hr rfl (fun tQ htQ hWQ => ⟨1, rfl, Or.inl ⟨rfl, by rw [← c_60]; decide⟩, by rw [htQ]⟩) (fun q hq => absurd hq List.not_mem_nil) dX3_isOfKind_23
      · skip
        refine lv_iconst (v := 1) hx hb dX3_isOfKind_22 (by decide) ?_
        rw [hQ]
        exact W.zret (v := 1) hx hb hr rfl (fun tQ htQ hWQ => ⟨1, rfl, Or.inl ⟨rfl, by rw [← c_57]; decide⟩, by rw [htQ]⟩) (fun q hq => absurd hq List.not_mem_nil) dX3_isOfKind_23
    · skip
      refine lv_iconst (v := 1) hx hb dX3_isOfKind_22 (by decide) ?_
      rw [hQ]
      exact W.zret (v := 1) hx hb hr rfl (fun tQ htQ hWQ => ⟨1, rfl, Or.inl ⟨rfl, by rw [← c_54]; decide⟩, by rw [htQ]⟩) (fun q hq => absurd hq List.not_mem_nil) dX3_isOfKind_23

theorem kc_isOfKind_X6_0 : (.fieldLink RX3 9 "MistHeaps$Heap" "kind" "I" : Cond) ∈ wsX3_isOfKind := kc_of 228 rfl rfl rfl
theorem kc_isOfKind_X6_1 : ∀ w ∈ wsX60, w ∈ wsX3_isOfKind := fun w h => List.mem_cons_of_mem _ (gin_wsX60 w h)
set_option maxHeartbeats 4000000 in
set_option maxRecDepth 100000 in
theorem c_isOfKind_X6 (l : Launch) (dC : Nat → ClassId) (dI : Nat → Nat → Nat) (kA : Nat)  (i0 : Nat) (sk : Int32) (sv : Int32) (scl : Int32) (x : Int32) (a0 : Nat) (zk7 : ∃ k7 : Nat, k7 < 7 ∧ sk = nI k7) : Met l yX3_isOfKind wsX3_isOfKind ({ frames := 0, cells := 0, slots := 0, locals := 0 } : Room) (va_Pc [.ref a0, .int x] (fun U => Gn kA (fun _ => False) U ∧ Fz dC dI [(zo8iiii a0 sk (nI i0) sv scl)] [] (fun _ => False) U)) (vp_Si (fun r => (r = 1 ∧ isU sk x) ∨ (r = 0 ∧ ¬ isU sk x))) 0 0 (fun _ => False) := by
  refine met_ofQ (cc := cX3_isOfKind) (maxL := 4) (ret := (some .boolean)) (by decide) rfl ?_
  intro p e s m args below meth c s₁ Q B hml hv hQ
  obtain ⟨rfl, hN_, hZ⟩ := hv
  have hx := B.exec
  have hb := B.bytes
  have hr := B.returns
  have hts := atoms_spec (ws := wsX3_isOfKind) B.pre
  have hown : s.vm.findClass RX3 = some m.cls := findClass_of_methodNamed B.named
  have hlocks := B.notSynchronized
  obtain ⟨A, hAe⟩ : ∃ A : Nat → Prop, A = fun _ => False := ⟨_, rfl⟩
  rw [← hAe] at hQ hN_ hZ
  have hS : va_S A s.heap s.heap [] := va_S.rf
  have hl := lv_entry [.ref a0, .int x] (n := 4) (Nat.le_of_ble_eq_true rfl)
  rw [lg_entry_eq]
  generalize (lg_sl [.ref a0, .int x] ++ List.replicate (4 - (lg_sl [.ref a0, .int x]).length) Slot.unset).toArray = ls at hl ⊢
  generalize hag : ([.ref a0, .int x] : List Value).toArray = args at hts hQ ⊢
  have hl : lv_has ls 4 [(0, .ref a0), (1, .int x)] := hl
  rcases kd7 zk7 with rfl | rfl | rfl | rfl | rfl | rfl | rfl
  · skip
    refine lv_aload_n hx hb dX3_isOfKind_0 rfl (lv_at hl 0 rfl) ?_
    refine va_get (D := (dC, dI)) (ci := 8) (v := .int 0) (C := RX6) (T := TX6) (N := 4) hx hb hts kc_isOfKind_X6_1 hown hZ.2.1 (hZ.P hS) 0 rfl rfl 0 (by decide) (hts (.fieldLink RX3 9 "MistHeaps$Heap" "kind" "I") kc_isOfKind_X6_0) (fun _ h9 => h9) rfl dX3_isOfKind_1 ?_
    refine lv_istore_n (lv' := [(2, .int 0), (0, .ref a0), (1, .int x)]) hx hb dX3_isOfKind_4 rfl hl (by decide) rfl (fun ls hl => ?_)
    refine lv_iconst (v := 0) hx hb dX3_isOfKind_5 (by decide) ?_
    refine lv_istore_n (lv' := [(3, .int 0), (2, .int 0), (0, .ref a0), (1, .int x)]) hx hb dX3_isOfKind_6 rfl hl (by decide) rfl (fun ls hl => ?_)
    refine lv_iload_n hx hb dX3_isOfKind_7 rfl (lv_at hl 0 rfl) ?_
    refine lv_bipush (v := 7) hx hb dX3_isOfKind_8 (by decide) ?_
    refine lv_icmp_ge (tgt := 36) hx hb dX3_isOfKind_10 (by decide) (fun c_1 => absurd c_1 (by decide)) (fun _ => ?_)
    refine lv_iload_n hx hb dX3_isOfKind_13 rfl (lv_at hl 1 rfl) ?_
    refine lv_if_lt (tgt := 36) hx hb dX3_isOfKind_14 (by decide) (fun c_2 => absurd c_2 (by decide)) (fun _ => ?_)
    refine lv_iload_n hx hb dX3_isOfKind_17 rfl (lv_at hl 1 rfl) ?_
    refine lv_iload_n hx hb dX3_isOfKind_18 rfl (lv_at hl 3 rfl) ?_
    refine lv_icmp_ne (tgt := 24) hx hb dX3_isOfKind_19 (by decide) (fun c_3 => ?_) (fun c_3 => ?_)
    · skip
      refine va_getsN (C := "MistHeaps") (n := "KIND_ABOVE") (d := "[I") (v := .ref kA) hx hb hN_.2.1 hS hown (va_Nw.use rfl (hN_.1 (.fieldLinkNest RX3 24 "MistHeaps" "KIND_ABOVE" "[I" "MistHeaps") (by decide +kernel))) (fun _ h9 => h9) dX3_isOfKind_24 ?_
      refine lv_iload_n hx hb dX3_isOfKind_27 rfl (lv_at hl 1 rfl) ?_
      refine va_ti (v := .int (-1)) hx hb hN_.2.2 hS (vp_in_nI (n := 0) (N := 7) (by omega) (by omega)) rfl dX3_isOfKind_28 ?_
      refine lv_istore_n (lv' := [(2, .int (-1)), (3, .int 0), (0, .ref a0), (1, .int x)]) hx hb dX3_isOfKind_29 rfl hl (by decide) rfl (fun ls hl => ?_)
      refine lv_iinc (v := 1) (lv' := [(3, .int 1), (2, .int (-1)), (0, .ref a0), (1, .int x)]) hx hb dX3_isOfKind_30 hl (k := 1) rfl (by decide) (by decide) rfl (fun ls hl => ?_)
      refine lv_goto (tgt := 7) hx hb dX3_isOfKind_33 (by decide) ?_
      refine lv_iload_n hx hb dX3_isOfKind_7 rfl (lv_at hl 0 rfl) ?_
      refine lv_bipush (v := 7) hx hb dX3_isOfKind_8 (by decide) ?_
      refine lv_icmp_ge (tgt := 36) hx hb dX3_isOfKind_10 (by decide) (fun c_4 => absurd c_4 (by decide)) (fun _ => ?_)
      refine lv_iload_n hx hb dX3_isOfKind_13 rfl (lv_at hl 1 rfl) ?_
      refine lv_if_lt (tgt := 36) hx hb dX3_isOfKind_14 (by decide) (fun _ => ?_) (fun c_5 => absurd c_5 (by decide))
      refine lv_iconst (v := 0) hx hb dX3_isOfKind_36 (by decide) ?_
      rw [hQ]
      exact W.zret (v := 0) hx hb hr rfl (fun tQ htQ hWQ => ⟨0, rfl, Or.inr ⟨rfl, fun q => by rcases q with q9 | q9 | ⟨q9, q8⟩ | ⟨q9, q8⟩ | ⟨q9, q8⟩; exact c_3 q9.symm; exact c_3 q9.symm; exact absurd q8 (by decide); exact absurd q8 (by decide); exact absurd q8 (by decide)⟩, by rw [htQ]⟩) (fun q hq => absurd hq List.not_mem_nil) dX3_isOfKind_37
    · skip
      refine lv_iconst (v := 1) hx hb dX3_isOfKind_22 (by decide) ?_
      rw [hQ]
      exact W.zret (v := 1) hx hb hr rfl (fun tQ htQ hWQ => ⟨1, rfl, Or.inl ⟨rfl, by rw [← c_3]; decide⟩, by rw [htQ]⟩) (fun q hq => absurd hq List.not_mem_nil) dX3_isOfKind_23
  · skip
    refine lv_aload_n hx hb dX3_isOfKind_0 rfl (lv_at hl 0 rfl) ?_
    refine va_get (D := (dC, dI)) (ci := 8) (v := .int 1) (C := RX6) (T := TX6) (N := 4) hx hb hts kc_isOfKind_X6_1 hown hZ.2.1 (hZ.P hS) 0 rfl rfl 0 (by decide) (hts (.fieldLink RX3 9 "MistHeaps$Heap" "kind" "I") kc_isOfKind_X6_0) (fun _ h9 => h9) rfl dX3_isOfKind_1 ?_
    refine lv_istore_n (lv' := [(2, .int 1), (0, .ref a0), (1, .int x)]) hx hb dX3_isOfKind_4 rfl hl (by decide) rfl (fun ls hl => ?_)
    refine lv_iconst (v := 0) hx hb dX3_isOfKind_5 (by decide) ?_
    refine lv_istore_n (lv' := [(3, .int 0), (2, .int 1), (0, .ref a0), (1, .int x)]) hx hb dX3_isOfKind_6 rfl hl (by decide) rfl (fun ls hl => ?_)
    refine lv_iload_n hx hb dX3_isOfKind_7 rfl (lv_at hl 0 rfl) ?_
    refine lv_bipush (v := 7) hx hb dX3_isOfKind_8 (by decide) ?_
    refine lv_icmp_ge (tgt := 36) hx hb dX3_isOfKind_10 (by decide) (fun c_6 => absurd c_6 (by decide)) (fun _ => ?_)
    refine lv_iload_n hx hb dX3_isOfKind_13 rfl (lv_at hl 1 rfl) ?_
    refine lv_if_lt (tgt := 36) hx hb dX3_isOfKind_14 (by decide) (fun c_7 => absurd c_7 (by decide)) (fun _ => ?_)
    refine lv_iload_n hx hb dX3_isOfKind_17 rfl (lv_at hl 1 rfl) ?_
    refine lv_iload_n hx hb dX3_isOfKind_18 rfl (lv_at hl 3 rfl) ?_
    refine lv_icmp_ne (tgt := 24) hx hb dX3_isOfKind_19 (by decide) (fun c_8 => ?_) (fun c_8 => ?_)
    · skip
      refine va_getsN (C := "MistHeaps") (n := "KIND_ABOVE") (d := "[I") (v := .ref kA) hx hb hN_.2.1 hS hown (va_Nw.use rfl (hN_.1 (.fieldLinkNest RX3 24 "MistHeaps" "KIND_ABOVE" "[I" "MistHeaps") (by decide +kernel))) (fun _ h9 => h9) dX3_isOfKind_24 ?_
      refine lv_iload_n hx hb dX3_isOfKind_27 rfl (lv_at hl 1 rfl) ?_
      refine va_ti (v := .int 0) hx hb hN_.2.2 hS (vp_in_nI (n := 1) (N := 7) (by omega) (by omega)) rfl dX3_isOfKind_28 ?_
      refine lv_istore_n (lv' := [(2, .int 0), (3, .int 0), (0, .ref a0), (1, .int x)]) hx hb dX3_isOfKind_29 rfl hl (by decide) rfl (fun ls hl => ?_)
      refine lv_iinc (v := 1) (lv' := [(3, .int 1), (2, .int 0), (0, .ref a0), (1, .int x)]) hx hb dX3_isOfKind_30 hl (k := 1) rfl (by decide) (by decide) rfl (fun ls hl => ?_)
      refine lv_goto (tgt := 7) hx hb dX3_isOfKind_33 (by decide) ?_
      refine lv_iload_n hx hb dX3_isOfKind_7 rfl (lv_at hl 0 rfl) ?_
      refine lv_bipush (v := 7) hx hb dX3_isOfKind_8 (by decide) ?_
      refine lv_icmp_ge (tgt := 36) hx hb dX3_isOfKind_10 (by decide) (fun c_9 => absurd c_9 (by decide)) (fun _ => ?_)
      refine lv_iload_n hx hb dX3_isOfKind_13 rfl (lv_at hl 1 rfl) ?_
      refine lv_if_lt (tgt := 36) hx hb dX3_isOfKind_14 (by decide) (fun c_10 => absurd c_10 (by decide)) (fun _ => ?_)
      refine lv_iload_n hx hb dX3_isOfKind_17 rfl (lv_at hl 1 rfl) ?_
      refine lv_iload_n hx hb dX3_isOfKind_18 rfl (lv_at hl 3 rfl) ?_
      refine lv_icmp_ne (tgt := 24) hx hb dX3_isOfKind_19 (by decide) (fun c_11 => ?_) (fun c_11 => ?_)
      · skip
        refine va_getsN (C := "MistHeaps") (n := "KIND_ABOVE") (d := "[I") (v := .ref kA) hx hb hN_.2.1 hS hown (va_Nw.use rfl (hN_.1 (.fieldLinkNest RX3 24 "MistHeaps" "KIND_ABOVE" "[I" "MistHeaps") (by decide +kernel))) (fun _ h9 => h9) dX3_isOfKind_24 ?_
        refine lv_iload_n hx hb dX3_isOfKind_27 rfl (lv_at hl 1 rfl) ?_
        refine va_ti (v := .int (-1)) hx hb hN_.2.2 hS (vp_in_nI (n := 0) (N := 7) (by omega) (by omega)) rfl dX3_isOfKind_28 ?_
        refine lv_istore_n (lv' := [(2, .int (-1)), (3, .int 1), (0, .ref a0), (1, .int x)]) hx hb dX3_isOfKind_29 rfl hl (by decide) rfl (fun ls hl => ?_)
        refine lv_iinc (v := 2) (lv' := [(3, .int 2), (2, .int (-1)), (0, .ref a0), (1, .int x)]) hx hb dX3_isOfKind_30 hl (k := 1) rfl (by decide) (by decide) rfl (fun ls hl => ?_)
        refine lv_goto (tgt := 7) hx hb dX3_isOfKind_33 (by decide) ?_
        refine lv_iload_n hx hb dX3_isOfKind_7 rfl (lv_at hl 0 rfl) ?_
        refine lv_bipush (v := 7) hx hb dX3_isOfKind_8 (by decide) ?_
        refine lv_icmp_ge (tgt := 36) hx hb dX3_isOfKind_10 (by decide) (fun c_12 => absurd c_12 (by decide)) (fun _ => ?_)
        refine lv_iload_n hx hb dX3_isOfKind_13 rfl (lv_at hl 1 rfl) ?_
        refine lv_if_lt (tgt := 36) hx hb dX3_isOfKind_14 (by decide) (fun _ => ?_) (fun c_13 => absurd c_13 (by decide))
        refine lv_iconst (v := 0) hx hb dX3_isOfKind_36 (by decide) ?_
        rw [hQ]
        exact W.zret (v := 0) hx hb hr rfl (fun tQ htQ hWQ => ⟨0, rfl, Or.inr ⟨rfl, fun q => by rcases q with q9 | q9 | ⟨q9, q8⟩ | ⟨q9, q8⟩ | ⟨q9, q8⟩; exact c_11 q9.symm; exact c_8 q9.symm; exact absurd q8 (by decide); exact absurd q8 (by decide); exact absurd q8 (by decide)⟩, by rw [htQ]⟩) (fun q hq => absurd hq List.not_mem_nil) dX3_isOfKind_37
      · skip
        refine lv_iconst (v := 1) hx hb dX3_isOfKind_22 (by decide) ?_
        rw [hQ]
        exact W.zret (v := 1) hx hb hr rfl (fun tQ htQ hWQ => ⟨1, rfl, Or.inl ⟨rfl, by rw [← c_11]; decide⟩, by rw [htQ]⟩) (fun q hq => absurd hq List.not_mem_nil) dX3_isOfKind_23
    · skip
      refine lv_iconst (v := 1) hx hb dX3_isOfKind_22 (by decide) ?_
      rw [hQ]
      exact W.zret (v := 1) hx hb hr rfl (fun tQ htQ hWQ => ⟨1, rfl, Or.inl ⟨rfl, by rw [← c_8]; decide⟩, by rw [htQ]⟩) (fun q hq => absurd hq List.not_mem_nil) dX3_isOfKind_23
  · skip
    refine lv_aload_n hx hb dX3_isOfKind_0 rfl (lv_at hl 0 rfl) ?_
    refine va_get (D := (dC, dI)) (ci := 8) (v := .int 2) (C := RX6) (T := TX6) (N := 4) hx hb hts kc_isOfKind_X6_1 hown hZ.2.1 (hZ.P hS) 0 rfl rfl 0 (by decide) (hts (.fieldLink RX3 9 "MistHeaps$Heap" "kind" "I") kc_isOfKind_X6_0) (fun _ h9 => h9) rfl dX3_isOfKind_1 ?_
    refine lv_istore_n (lv' := [(2, .int 2), (0, .ref a0), (1, .int x)]) hx hb dX3_isOfKind_4 rfl hl (by decide) rfl (fun ls hl => ?_)
    refine lv_iconst (v := 0) hx hb dX3_isOfKind_5 (by decide) ?_
    refine lv_istore_n (lv' := [(3, .int 0), (2, .int 2), (0, .ref a0), (1, .int x)]) hx hb dX3_isOfKind_6 rfl hl (by decide) rfl (fun ls hl => ?_)
    refine lv_iload_n hx hb dX3_isOfKind_7 rfl (lv_at hl 0 rfl) ?_
    refine lv_bipush (v := 7) hx hb dX3_isOfKind_8 (by decide) ?_
    refine lv_icmp_ge (tgt := 36) hx hb dX3_isOfKind_10 (by decide) (fun c_14 => absurd c_14 (by decide)) (fun _ => ?_)
    refine lv_iload_n hx hb dX3_isOfKind_13 rfl (lv_at hl 1 rfl) ?_
    refine lv_if_lt (tgt := 36) hx hb dX3_isOfKind_14 (by decide) (fun c_15 => absurd c_15 (by decide)) (fun _ => ?_)
    refine lv_iload_n hx hb dX3_isOfKind_17 rfl (lv_at hl 1 rfl) ?_
    refine lv_iload_n hx hb dX3_isOfKind_18 rfl (lv_at hl 3 rfl) ?_
    refine lv_icmp_ne (tgt := 24) hx hb dX3_isOfKind_19 (by decide) (fun c_16 => ?_) (fun c_16 => ?_)
    · skip
      refine va_getsN (C := "MistHeaps") (n := "KIND_ABOVE") (d := "[I") (v := .ref kA) hx hb hN_.2.1 hS hown (va_Nw.use rfl (hN_.1 (.fieldLinkNest RX3 24 "MistHeaps" "KIND_ABOVE" "[I" "MistHeaps") (by decide +kernel))) (fun _ h9 => h9) dX3_isOfKind_24 ?_
      refine lv_iload_n hx hb dX3_isOfKind_27 rfl (lv_at hl 1 rfl) ?_
      refine va_ti (v := .int 0) hx hb hN_.2.2 hS (vp_in_nI (n := 2) (N := 7) (by omega) (by omega)) rfl dX3_isOfKind_28 ?_
      refine lv_istore_n (lv' := [(2, .int 0), (3, .int 0), (0, .ref a0), (1, .int x)]) hx hb dX3_isOfKind_29 rfl hl (by decide) rfl (fun ls hl => ?_)
      refine lv_iinc (v := 1) (lv' := [(3, .int 1), (2, .int 0), (0, .ref a0), (1, .int x)]) hx hb dX3_isOfKind_30 hl (k := 1) rfl (by decide) (by decide) rfl (fun ls hl => ?_)
      refine lv_goto (tgt := 7) hx hb dX3_isOfKind_33 (by decide) ?_
      refine lv_iload_n hx hb dX3_isOfKind_7 rfl (lv_at hl 0 rfl) ?_
      refine lv_bipush (v := 7) hx hb dX3_isOfKind_8 (by decide) ?_
      refine lv_icmp_ge (tgt := 36) hx hb dX3_isOfKind_10 (by decide) (fun c_17 => absurd c_17 (by decide)) (fun _ => ?_)
      refine lv_iload_n hx hb dX3_isOfKind_13 rfl (lv_at hl 1 rfl) ?_
      refine lv_if_lt (tgt := 36) hx hb dX3_isOfKind_14 (by decide) (fun c_18 => absurd c_18 (by decide)) (fun _ => ?_)
      refine lv_iload_n hx hb dX3_isOfKind_17 rfl (lv_at hl 1 rfl) ?_
      refine lv_iload_n hx hb dX3_isOfKind_18 rfl (lv_at hl 3 rfl) ?_
      refine lv_icmp_ne (tgt := 24) hx hb dX3_isOfKind_19 (by decide) (fun c_19 => ?_) (fun c_19 => ?_)
      · skip
        refine va_getsN (C := "MistHeaps") (n := "KIND_ABOVE") (d := "[I") (v := .ref kA) hx hb hN_.2.1 hS hown (va_Nw.use rfl (hN_.1 (.fieldLinkNest RX3 24 "MistHeaps" "KIND_ABOVE" "[I" "MistHeaps") (by decide +kernel))) (fun _ h9 => h9) dX3_isOfKind_24 ?_
        refine lv_iload_n hx hb dX3_isOfKind_27 rfl (lv_at hl 1 rfl) ?_
        refine va_ti (v := .int (-1)) hx hb hN_.2.2 hS (vp_in_nI (n := 0) (N := 7) (by omega) (by omega)) rfl dX3_isOfKind_28 ?_
        refine lv_istore_n (lv' := [(2, .int (-1)), (3, .int 1), (0, .ref a0), (1, .int x)]) hx hb dX3_isOfKind_29 rfl hl (by decide) rfl (fun ls hl => ?_)
        refine lv_iinc (v := 2) (lv' := [(3, .int 2), (2, .int (-1)), (0, .ref a0), (1, .int x)]) hx hb dX3_isOfKind_30 hl (k := 1) rfl (by decide) (by decide) rfl (fun ls hl => ?_)
        refine lv_goto (tgt := 7) hx hb dX3_isOfKind_33 (by decide) ?_
        refine lv_iload_n hx hb dX3_isOfKind_7 rfl (lv_at hl 0 rfl) ?_
        refine lv_bipush (v := 7) hx hb dX3_isOfKind_8 (by decide) ?_
        refine lv_icmp_ge (tgt := 36) hx hb dX3_isOfKind_10 (by decide) (fun c_20 => absurd c_20 (by decide)) (fun _ => ?_)
        refine lv_iload_n hx hb dX3_isOfKind_13 rfl (lv_at hl 1 rfl) ?_
        refine lv_if_lt (tgt := 36) hx hb dX3_isOfKind_14 (by decide) (fun _ => ?_) (fun c_21 => absurd c_21 (by decide))
        refine lv_iconst (v := 0) hx hb dX3_isOfKind_36 (by decide) ?_
        rw [hQ]
        exact W.zret (v := 0) hx hb hr rfl (fun tQ htQ hWQ => ⟨0, rfl, Or.inr ⟨rfl, fun q => by rcases q with q9 | q9 | ⟨q9, q8⟩ | ⟨q9, q8⟩ | ⟨q9, q8⟩; exact c_19 q9.symm; exact c_16 q9.symm; exact absurd q8 (by decide); exact absurd q8 (by decide); exact absurd q8 (by decide)⟩, by rw [htQ]⟩) (fun q hq => absurd hq List.not_mem_nil) dX3_isOfKind_37
      · skip
        refine lv_iconst (v := 1) hx hb dX3_isOfKind_22 (by decide) ?_
        rw [hQ]
        exact W.zret (v := 1) hx hb hr rfl (fun tQ htQ hWQ => ⟨1, rfl, Or.inl ⟨rfl, by rw [← c_19]; decide⟩, by rw [htQ]⟩) (fun q hq => absurd hq List.not_mem_nil) dX3_isOfKind_23
    · skip
      refine lv_iconst (v := 1) hx hb dX3_isOfKind_22 (by decide) ?_
      rw [hQ]
      exact W.zret (v := 1) hx hb hr rfl (fun tQ htQ hWQ => ⟨1, rfl, Or.inl ⟨rfl, by rw [← c_16]; decide⟩, by rw [htQ]⟩) (fun q hq => absurd hq List.not_mem_nil) dX3_isOfKind_23
  · skip
    refine lv_aload_n hx hb dX3_isOfKind_0 rfl (lv_at hl 0 rfl) ?_
    refine va_get (D := (dC, dI)) (ci := 8) (v := .int 3) (C := RX6) (T := TX6) (N := 4) hx hb hts kc_isOfKind_X6_1 hown hZ.2.1 (hZ.P hS) 0 rfl rfl 0 (by decide) (hts (.fieldLink RX3 9 "MistHeaps$Heap" "kind" "I") kc_isOfKind_X6_0) (fun _ h9 => h9) rfl dX3_isOfKind_1 ?_
    refine lv_istore_n (lv' := [(2, .int 3), (0, .ref a0), (1, .int x)]) hx hb dX3_isOfKind_4 rfl hl (by decide) rfl (fun ls hl => ?_)
    refine lv_iconst (v := 0) hx hb dX3_isOfKind_5 (by decide) ?_
    refine lv_istore_n (lv' := [(3, .int 0), (2, .int 3), (0, .ref a0), (1, .int x)]) hx hb dX3_isOfKind_6 rfl hl (by decide) rfl (fun ls hl => ?_)
    refine lv_iload_n hx hb dX3_isOfKind_7 rfl (lv_at hl 0 rfl) ?_
    refine lv_bipush (v := 7) hx hb dX3_isOfKind_8 (by decide) ?_
    refine lv_icmp_ge (tgt := 36) hx hb dX3_isOfKind_10 (by decide) (fun c_22 => absurd c_22 (by decide)) (fun _ => ?_)
    refine lv_iload_n hx hb dX3_isOfKind_13 rfl (lv_at hl 1 rfl) ?_
    refine lv_if_lt (tgt := 36) hx hb dX3_isOfKind_14 (by decide) (fun c_23 => absurd c_23 (by decide)) (fun _ => ?_)
    refine lv_iload_n hx hb dX3_isOfKind_17 rfl (lv_at hl 1 rfl) ?_
    refine lv_iload_n hx hb dX3_isOfKind_18 rfl (lv_at hl 3 rfl) ?_
    refine lv_icmp_ne (tgt := 24) hx hb dX3_isOfKind_19 (by decide) (fun c_24 => ?_) (fun c_24 => ?_)
    · skip
      refine va_getsN (C := "MistHeaps") (n := "KIND_ABOVE") (d := "[I") (v := .ref kA) hx hb hN_.2.1 hS hown (va_Nw.use rfl (hN_.1 (.fieldLinkNest RX3 24 "MistHeaps" "KIND_ABOVE" "[I" "MistHeaps") (by decide +kernel))) (fun _ h9 => h9) dX3_isOfKind_24 ?_
      refine lv_iload_n hx hb dX3_isOfKind_27 rfl (lv_at hl 1 rfl) ?_
      refine va_ti (v := .int 0) hx hb hN_.2.2 hS (vp_in_nI (n := 3) (N := 7) (by omega) (by omega)) rfl dX3_isOfKind_28 ?_
      refine lv_istore_n (lv' := [(2, .int 0), (3, .int 0), (0, .ref a0), (1, .int x)]) hx hb dX3_isOfKind_29 rfl hl (by decide) rfl (fun ls hl => ?_)
      refine lv_iinc (v := 1) (lv' := [(3, .int 1), (2, .int 0), (0, .ref a0), (1, .int x)]) hx hb dX3_isOfKind_30 hl (k := 1) rfl (by decide) (by decide) rfl (fun ls hl => ?_)
      refine lv_goto (tgt := 7) hx hb dX3_isOfKind_33 (by decide) ?_
      refine lv_iload_n hx hb dX3_isOfKind_7 rfl (lv_at hl 0 rfl) ?_
      refine lv_bipush (v := 7) hx hb dX3_isOfKind_8 (by decide) ?_
      refine lv_icmp_ge (tgt := 36) hx hb dX3_isOfKind_10 (by decide) (fun c_25 => absurd c_25 (by decide)) (fun _ => ?_)
      refine lv_iload_n hx hb dX3_isOfKind_13 rfl (lv_at hl 1 rfl) ?_
      refine lv_if_lt (tgt := 36) hx hb dX3_isOfKind_14 (by decide) (fun c_26 => absurd c_26 (by decide)) (fun _ => ?_)
      refine lv_iload_n hx hb dX3_isOfKind_17 rfl (lv_at hl 1 rfl) ?_
      refine lv_iload_n hx hb dX3_isOfKind_18 rfl (lv_at hl 3 rfl) ?_
      refine lv_icmp_ne (tgt := 24) hx hb dX3_isOfKind_19 (by decide) (fun c_27 => ?_) (fun c_27 => ?_)
      · skip
        refine va_getsN (C := "MistHeaps") (n := "KIND_ABOVE") (d := "[I") (v := .ref kA) hx hb hN_.2.1 hS hown (va_Nw.use rfl (hN_.1 (.fieldLinkNest RX3 24 "MistHeaps" "KIND_ABOVE" "[I" "MistHeaps") (by decide +kernel))) (fun _ h9 => h9) dX3_isOfKind_24 ?_
        refine lv_iload_n hx hb dX3_isOfKind_27 rfl (lv_at hl 1 rfl) ?_
        refine va_ti (v := .int (-1)) hx hb hN_.2.2 hS (vp_in_nI (n := 0) (N := 7) (by omega) (by omega)) rfl dX3_isOfKind_28 ?_
        refine lv_istore_n (lv' := [(2, .int (-1)), (3, .int 1), (0, .ref a0), (1, .int x)]) hx hb dX3_isOfKind_29 rfl hl (by decide) rfl (fun ls hl => ?_)
        refine lv_iinc (v := 2) (lv' := [(3, .int 2), (2, .int (-1)), (0, .ref a0), (1, .int x)]) hx hb dX3_isOfKind_30 hl (k := 1) rfl (by decide) (by decide) rfl (fun ls hl => ?_)
        refine lv_goto (tgt := 7) hx hb dX3_isOfKind_33 (by decide) ?_
        refine lv_iload_n hx hb dX3_isOfKind_7 rfl (lv_at hl 0 rfl) ?_
        refine lv_bipush (v := 7) hx hb dX3_isOfKind_8 (by decide) ?_
        refine lv_icmp_ge (tgt := 36) hx hb dX3_isOfKind_10 (by decide) (fun c_28 => absurd c_28 (by decide)) (fun _ => ?_)
        refine lv_iload_n hx hb dX3_isOfKind_13 rfl (lv_at hl 1 rfl) ?_
        refine lv_if_lt (tgt := 36) hx hb dX3_isOfKind_14 (by decide) (fun _ => ?_) (fun c_29 => absurd c_29 (by decide))
        refine lv_iconst (v := 0) hx hb dX3_isOfKind_36 (by decide) ?_
        rw [hQ]
        exact W.zret (v := 0) hx hb hr rfl (fun tQ htQ hWQ => ⟨0, rfl, Or.inr ⟨rfl, fun q => by rcases q with q9 | q9 | ⟨q9, q8⟩ | ⟨q9, q8⟩ | ⟨q9, q8⟩; exact c_27 q9.symm; exact c_24 q9.symm; exact absurd q8 (by decide); exact absurd q8 (by decide); exact absurd q8 (by decide)⟩, by rw [htQ]⟩) (fun q hq => absurd hq List.not_mem_nil) dX3_isOfKind_37
      · skip
        refine lv_iconst (v := 1) hx hb dX3_isOfKind_22 (by decide) ?_
        rw [hQ]
        exact W.zret (v := 1) hx hb hr rfl (fun tQ htQ hWQ => ⟨1, rfl, Or.inl ⟨rfl, by rw [← c_27]; decide⟩, by rw [htQ]⟩) (fun q hq => absurd hq List.not_mem_nil) dX3_isOfKind_23
    · skip
      refine lv_iconst (v := 1) hx hb dX3_isOfKind_22 (by decide) ?_
      rw [hQ]
      exact W.zret (v := 1) hx hb hr rfl (fun tQ htQ hWQ => ⟨1, rfl, Or.inl ⟨rfl, by rw [← c_24]; decide⟩, by rw [htQ]⟩) (fun q hq => absurd hq List.not_mem_nil) dX3_isOfKind_23
  · skip
    refine lv_aload_n hx hb dX3_isOfKind_0 rfl (lv_at hl 0 rfl) ?_
    refine va_get (D := (dC, dI)) (ci := 8) (v := .int 4) (C := RX6) (T := TX6) (N := 4) hx hb hts kc_isOfKind_X6_1 hown hZ.2.1 (hZ.P hS) 0 rfl rfl 0 (by decide) (hts (.fieldLink RX3 9 "MistHeaps$Heap" "kind" "I") kc_isOfKind_X6_0) (fun _ h9 => h9) rfl dX3_isOfKind_1 ?_
    refine lv_istore_n (lv' := [(2, .int 4), (0, .ref a0), (1, .int x)]) hx hb dX3_isOfKind_4 rfl hl (by decide) rfl (fun ls hl => ?_)
    refine lv_iconst (v := 0) hx hb dX3_isOfKind_5 (by decide) ?_
    refine lv_istore_n (lv' := [(3, .int 0), (2, .int 4), (0, .ref a0), (1, .int x)]) hx hb dX3_isOfKind_6 rfl hl (by decide) rfl (fun ls hl => ?_)
    refine lv_iload_n hx hb dX3_isOfKind_7 rfl (lv_at hl 0 rfl) ?_
    refine lv_bipush (v := 7) hx hb dX3_isOfKind_8 (by decide) ?_
    refine lv_icmp_ge (tgt := 36) hx hb dX3_isOfKind_10 (by decide) (fun c_30 => absurd c_30 (by decide)) (fun _ => ?_)
    refine lv_iload_n hx hb dX3_isOfKind_13 rfl (lv_at hl 1 rfl) ?_
    refine lv_if_lt (tgt := 36) hx hb dX3_isOfKind_14 (by decide) (fun c_31 => absurd c_31 (by decide)) (fun _ => ?_)
    refine lv_iload_n hx hb dX3_isOfKind_17 rfl (lv_at hl 1 rfl) ?_
    refine lv_iload_n hx hb dX3_isOfKind_18 rfl (lv_at hl 3 rfl) ?_
    refine lv_icmp_ne (tgt := 24) hx hb dX3_isOfKind_19 (by decide) (fun c_32 => ?_) (fun c_32 => ?_)
    · skip
      refine va_getsN (C := "MistHeaps") (n := "KIND_ABOVE") (d := "[I") (v := .ref kA) hx hb hN_.2.1 hS hown (va_Nw.use rfl (hN_.1 (.fieldLinkNest RX3 24 "MistHeaps" "KIND_ABOVE" "[I" "MistHeaps") (by decide +kernel))) (fun _ h9 => h9) dX3_isOfKind_24 ?_
      refine lv_iload_n hx hb dX3_isOfKind_27 rfl (lv_at hl 1 rfl) ?_
      refine va_ti (v := .int 1) hx hb hN_.2.2 hS (vp_in_nI (n := 4) (N := 7) (by omega) (by omega)) rfl dX3_isOfKind_28 ?_
      refine lv_istore_n (lv' := [(2, .int 1), (3, .int 0), (0, .ref a0), (1, .int x)]) hx hb dX3_isOfKind_29 rfl hl (by decide) rfl (fun ls hl => ?_)
      refine lv_iinc (v := 1) (lv' := [(3, .int 1), (2, .int 1), (0, .ref a0), (1, .int x)]) hx hb dX3_isOfKind_30 hl (k := 1) rfl (by decide) (by decide) rfl (fun ls hl => ?_)
      refine lv_goto (tgt := 7) hx hb dX3_isOfKind_33 (by decide) ?_
      refine lv_iload_n hx hb dX3_isOfKind_7 rfl (lv_at hl 0 rfl) ?_
      refine lv_bipush (v := 7) hx hb dX3_isOfKind_8 (by decide) ?_
      refine lv_icmp_ge (tgt := 36) hx hb dX3_isOfKind_10 (by decide) (fun c_33 => absurd c_33 (by decide)) (fun _ => ?_)
      refine lv_iload_n hx hb dX3_isOfKind_13 rfl (lv_at hl 1 rfl) ?_
      refine lv_if_lt (tgt := 36) hx hb dX3_isOfKind_14 (by decide) (fun c_34 => absurd c_34 (by decide)) (fun _ => ?_)
      refine lv_iload_n hx hb dX3_isOfKind_17 rfl (lv_at hl 1 rfl) ?_
      refine lv_iload_n hx hb dX3_isOfKind_18 rfl (lv_at hl 3 rfl) ?_
      refine lv_icmp_ne (tgt := 24) hx hb dX3_isOfKind_19 (by decide) (fun c_35 => ?_) (fun c_35 => ?_)
      · skip
        refine va_getsN (C := "MistHeaps") (n := "KIND_ABOVE") (d := "[I") (v := .ref kA) hx hb hN_.2.1 hS hown (va_Nw.use rfl (hN_.1 (.fieldLinkNest RX3 24 "MistHeaps" "KIND_ABOVE" "[I" "MistHeaps") (by decide +kernel))) (fun _ h9 => h9) dX3_isOfKind_24 ?_
        refine lv_iload_n hx hb dX3_isOfKind_27 rfl (lv_at hl 1 rfl) ?_
        refine va_ti (v := .int 0) hx hb hN_.2.2 hS (vp_in_nI (n := 1) (N := 7) (by omega) (by omega)) rfl dX3_isOfKind_28 ?_
        refine lv_istore_n (lv' := [(2, .int 0), (3, .int 1), (0, .ref a0), (1, .int x)]) hx hb dX3_isOfKind_29 rfl hl (by decide) rfl (fun ls hl => ?_)
        refine lv_iinc (v := 2) (lv' := [(3, .int 2), (2, .int 0), (0, .ref a0), (1, .int x)]) hx hb dX3_isOfKind_30 hl (k := 1) rfl (by decide) (by decide) rfl (fun ls hl => ?_)
        refine lv_goto (tgt := 7) hx hb dX3_isOfKind_33 (by decide) ?_
        refine lv_iload_n hx hb dX3_isOfKind_7 rfl (lv_at hl 0 rfl) ?_
        refine lv_bipush (v := 7) hx hb dX3_isOfKind_8 (by decide) ?_
        refine lv_icmp_ge (tgt := 36) hx hb dX3_isOfKind_10 (by decide) (fun c_36 => absurd c_36 (by decide)) (fun _ => ?_)
        refine lv_iload_n hx hb dX3_isOfKind_13 rfl (lv_at hl 1 rfl) ?_
        refine lv_if_lt (tgt := 36) hx hb dX3_isOfKind_14 (by decide) (fun c_37 => absurd c_37 (by decide)) (fun _ => ?_)
        refine lv_iload_n hx hb dX3_isOfKind_17 rfl (lv_at hl 1 rfl) ?_
        refine lv_iload_n hx hb dX3_isOfKind_18 rfl (lv_at hl 3 rfl) ?_
        refine lv_icmp_ne (tgt := 24) hx hb dX3_isOfKind_19 (by decide) (fun c_38 => ?_) (fun c_38 => ?_)
        · skip
          refine va_getsN (C := "MistHeaps") (n := "KIND_ABOVE") (d := "[I") (v := .ref kA) hx hb hN_.2.1 hS hown (va_Nw.use rfl (hN_.1 (.fieldLinkNest RX3 24 "MistHeaps" "KIND_ABOVE" "[I" "MistHeaps") (by decide +kernel))) (fun _ h9 => h9) dX3_isOfKind_24 ?_
          refine lv_iload_n hx hb dX3_isOfKind_27 rfl (lv_at hl 1 rfl) ?_
          refine va_ti (v := .int (-1)) hx hb hN_.2.2 hS (vp_in_nI (n := 0) (N := 7) (by omega) (by omega)) rfl dX3_isOfKind_28 ?_
          refine lv_istore_n (lv' := [(2, .int (-1)), (3, .int 2), (0, .ref a0), (1, .int x)]) hx hb dX3_isOfKind_29 rfl hl (by decide) rfl (fun ls hl => ?_)
          refine lv_iinc (v := 3) (lv' := [(3, .int 3), (2, .int (-1)), (0, .ref a0), (1, .int x)]) hx hb dX3_isOfKind_30 hl (k := 1) rfl (by decide) (by decide) rfl (fun ls hl => ?_)
          refine lv_goto (tgt := 7) hx hb dX3_isOfKind_33 (by decide) ?_
          refine lv_iload_n hx hb dX3_isOfKind_7 rfl (lv_at hl 0 rfl) ?_
          refine lv_bipush (v := 7) hx hb dX3_isOfKind_8 (by decide) ?_
          refine lv_icmp_ge (tgt := 36) hx hb dX3_isOfKind_10 (by decide) (fun c_39 => absurd c_39 (by decide)) (fun _ => ?_)
          refine lv_iload_n hx hb dX3_isOfKind_13 rfl (lv_at hl 1 rfl) ?_
          refine lv_if_lt (tgt := 36) hx hb dX3_isOfKind_14 (by decide) (fun _ => ?_) (fun c_40 => absurd c_40 (by decide))
          refine lv_iconst (v := 0) hx hb dX3_isOfKind_36 (by decide) ?_
          rw [hQ]
          exact W.zret (v := 0) hx hb hr rfl (fun tQ htQ hWQ => ⟨0, rfl, Or.inr ⟨rfl, fun q => by rcases q with q9 | q9 | ⟨q9, q8⟩ | ⟨q9, q8⟩ | ⟨q9, q8⟩; exact c_38 q9.symm; exact c_32 q9.symm; exact c_35 q9.symm; exact absurd q8 (by decide); exact absurd q8 (by decide)⟩, by rw [htQ]⟩) (fun q hq => absurd hq List.not_mem_nil) dX3_isOfKind_37
        · skip
          refine lv_iconst (v := 1) hx hb dX3_isOfKind_22 (by decide) ?_
          rw [hQ]
          exact W.zret (v := 1) hx hb hr rfl (fun tQ htQ hWQ => ⟨1, rfl, Or.inl ⟨rfl, by rw [← c_38]; decide⟩, by rw [htQ]⟩) (fun q hq => absurd hq List.not_mem_nil) dX3_isOfKind_23
      · skip
        refine lv_iconst (v := 1) hx hb dX3_isOfKind_22 (by decide) ?_
        rw [hQ]
        exact W.zret (v := 1) hx hb hr rfl (fun tQ htQ hWQ => ⟨1, rfl, Or.inl ⟨rfl, by rw [← c_35]; decide⟩, by rw [htQ]⟩) (fun q hq => absurd hq List.not_mem_nil) dX3_isOfKind_23
    · skip
      refine lv_iconst (v := 1) hx hb dX3_isOfKind_22 (by decide) ?_
      rw [hQ]
      exact W.zret (v := 1) hx hb hr rfl (fun tQ htQ hWQ => ⟨1, rfl, Or.inl ⟨rfl, by rw [← c_32]; decide⟩, by rw [htQ]⟩) (fun q hq => absurd hq List.not_mem_nil) dX3_isOfKind_23
  · skip
    refine lv_aload_n hx hb dX3_isOfKind_0 rfl (lv_at hl 0 rfl) ?_
    refine va_get (D := (dC, dI)) (ci := 8) (v := .int 5) (C := RX6) (T := TX6) (N := 4) hx hb hts kc_isOfKind_X6_1 hown hZ.2.1 (hZ.P hS) 0 rfl rfl 0 (by decide) (hts (.fieldLink RX3 9 "MistHeaps$Heap" "kind" "I") kc_isOfKind_X6_0) (fun _ h9 => h9) rfl dX3_isOfKind_1 ?_
    refine lv_istore_n (lv' := [(2, .int 5), (0, .ref a0), (1, .int x)]) hx hb dX3_isOfKind_4 rfl hl (by decide) rfl (fun ls hl => ?_)
    refine lv_iconst (v := 0) hx hb dX3_isOfKind_5 (by decide) ?_
    refine lv_istore_n (lv' := [(3, .int 0), (2, .int 5), (0, .ref a0), (1, .int x)]) hx hb dX3_isOfKind_6 rfl hl (by decide) rfl (fun ls hl => ?_)
    refine lv_iload_n hx hb dX3_isOfKind_7 rfl (lv_at hl 0 rfl) ?_
    refine lv_bipush (v := 7) hx hb dX3_isOfKind_8 (by decide) ?_
    refine lv_icmp_ge (tgt := 36) hx hb dX3_isOfKind_10 (by decide) (fun c_41 => absurd c_41 (by decide)) (fun _ => ?_)
    refine lv_iload_n hx hb dX3_isOfKind_13 rfl (lv_at hl 1 rfl) ?_
    refine lv_if_lt (tgt := 36) hx hb dX3_isOfKind_14 (by decide) (fun c_42 => absurd c_42 (by decide)) (fun _ => ?_)
    refine lv_iload_n hx hb dX3_isOfKind_17 rfl (lv_at hl 1 rfl) ?_
    refine lv_iload_n hx hb dX3_isOfKind_18 rfl (lv_at hl 3 rfl) ?_
    refine lv_icmp_ne (tgt := 24) hx hb dX3_isOfKind_19 (by decide) (fun c_43 => ?_) (fun c_43 => ?_)
    · skip
      refine va_getsN (C := "MistHeaps") (n := "KIND_ABOVE") (d := "[I") (v := .ref kA) hx hb hN_.2.1 hS hown (va_Nw.use rfl (hN_.1 (.fieldLinkNest RX3 24 "MistHeaps" "KIND_ABOVE" "[I" "MistHeaps") (by decide +kernel))) (fun _ h9 => h9) dX3_isOfKind_24 ?_
      refine lv_iload_n hx hb dX3_isOfKind_27 rfl (lv_at hl 1 rfl) ?_
      refine va_ti (v := .int 2) hx hb hN_.2.2 hS (vp_in_nI (n := 5) (N := 7) (by omega) (by omega)) rfl dX3_isOfKind_28 ?_
      refine lv_istore_n (lv' := [(2, .int 2), (3, .int 0), (0, .ref a0), (1, .int x)]) hx hb dX3_isOfKind_29 rfl hl (by decide) rfl (fun ls hl => ?_)
      refine lv_iinc (v := 1) (lv' := [(3, .int 1), (2, .int 2), (0, .ref a0), (1, .int x)]) hx hb dX3_isOfKind_30 hl (k := 1) rfl (by decide) (by decide) rfl (fun ls hl => ?_)
      refine lv_goto (tgt := 7) hx hb dX3_isOfKind_33 (by decide) ?_
      refine lv_iload_n hx hb dX3_isOfKind_7 rfl (lv_at hl 0 rfl) ?_
      refine lv_bipush (v := 7) hx hb dX3_isOfKind_8 (by decide) ?_
      refine lv_icmp_ge (tgt := 36) hx hb dX3_isOfKind_10 (by decide) (fun c_44 => absurd c_44 (by decide)) (fun _ => ?_)
      refine lv_iload_n hx hb dX3_isOfKind_13 rfl (lv_at hl 1 rfl) ?_
      refine lv_if_lt (tgt := 36) hx hb dX3_isOfKind_14 (by decide) (fun c_45 => absurd c_45 (by decide)) (fun _ => ?_)
      refine lv_iload_n hx hb dX3_isOfKind_17 rfl (lv_at hl 1 rfl) ?_
      refine lv_iload_n hx hb dX3_isOfKind_18 rfl (lv_at hl 3 rfl) ?_
      refine lv_icmp_ne (tgt := 24) hx hb dX3_isOfKind_19 (by decide) (fun c_46 => ?_) (fun c_46 => ?_)
      · skip
        refine va_getsN (C := "MistHeaps") (n := "KIND_ABOVE") (d := "[I") (v := .ref kA) hx hb hN_.2.1 hS hown (va_Nw.use rfl (hN_.1 (.fieldLinkNest RX3 24 "MistHeaps" "KIND_ABOVE" "[I" "MistHeaps") (by decide +kernel))) (fun _ h9 => h9) dX3_isOfKind_24 ?_
        refine lv_iload_n hx hb dX3_isOfKind_27 rfl (lv_at hl 1 rfl) ?_
        refine va_ti (v := .int 0) hx hb hN_.2.2 hS (vp_in_nI (n := 2) (N := 7) (by omega) (by omega)) rfl dX3_isOfKind_28 ?_
        refine lv_istore_n (lv' := [(2, .int 0), (3, .int 1), (0, .ref a0), (1, .int x)]) hx hb dX3_isOfKind_29 rfl hl (by decide) rfl (fun ls hl => ?_)
        refine lv_iinc (v := 2) (lv' := [(3, .int 2), (2, .int 0), (0, .ref a0), (1, .int x)]) hx hb dX3_isOfKind_30 hl (k := 1) rfl (by decide) (by decide) rfl (fun ls hl => ?_)
        refine lv_goto (tgt := 7) hx hb dX3_isOfKind_33 (by decide) ?_
        refine lv_iload_n hx hb dX3_isOfKind_7 rfl (lv_at hl 0 rfl) ?_
        refine lv_bipush (v := 7) hx hb dX3_isOfKind_8 (by decide) ?_
        refine lv_icmp_ge (tgt := 36) hx hb dX3_isOfKind_10 (by decide) (fun c_47 => absurd c_47 (by decide)) (fun _ => ?_)
        refine lv_iload_n hx hb dX3_isOfKind_13 rfl (lv_at hl 1 rfl) ?_
        refine lv_if_lt (tgt := 36) hx hb dX3_isOfKind_14 (by decide) (fun c_48 => absurd c_48 (by decide)) (fun _ => ?_)
        refine lv_iload_n hx hb dX3_isOfKind_17 rfl (lv_at hl 1 rfl) ?_
        refine lv_iload_n hx hb dX3_isOfKind_18 rfl (lv_at hl 3 rfl) ?_
        refine lv_icmp_ne (tgt := 24) hx hb dX3_isOfKind_19 (by decide) (fun c_49 => ?_) (fun c_49 => ?_)
        · skip
          refine va_getsN (C := "MistHeaps") (n := "KIND_ABOVE") (d := "[I") (v := .ref kA) hx hb hN_.2.1 hS hown (va_Nw.use rfl (hN_.1 (.fieldLinkNest RX3 24 "MistHeaps" "KIND_ABOVE" "[I" "MistHeaps") (by decide +kernel))) (fun _ h9 => h9) dX3_isOfKind_24 ?_
          refine lv_iload_n hx hb dX3_isOfKind_27 rfl (lv_at hl 1 rfl) ?_
          refine va_ti (v := .int (-1)) hx hb hN_.2.2 hS (vp_in_nI (n := 0) (N := 7) (by omega) (by omega)) rfl dX3_isOfKind_28 ?_
          refine lv_istore_n (lv' := [(2, .int (-1)), (3, .int 2), (0, .ref a0), (1, .int x)]) hx hb dX3_isOfKind_29 rfl hl (by decide) rfl (fun ls hl => ?_)
          refine lv_iinc (v := 3) (lv' := [(3, .int 3), (2, .int (-1)), (0, .ref a0), (1, .int x)]) hx hb dX3_isOfKind_30 hl (k := 1) rfl (by decide) (by decide) rfl (fun ls hl => ?_)
          refine lv_goto (tgt := 7) hx hb dX3_isOfKind_33 (by decide) ?_
          refine lv_iload_n hx hb dX3_isOfKind_7 rfl (lv_at hl 0 rfl) ?_
          refine lv_bipush (v := 7) hx hb dX3_isOfKind_8 (by decide) ?_
          refine lv_icmp_ge (tgt := 36) hx hb dX3_isOfKind_10 (by decide) (fun c_50 => absurd c_50 (by decide)) (fun _ => ?_)
          refine lv_iload_n hx hb dX3_isOfKind_13 rfl (lv_at hl 1 rfl) ?_
          refine lv_if_lt (tgt := 36) hx hb dX3_isOfKind_14 (by decide) (fun _ => ?_) (fun c_51 => absurd c_51 (by decide))
          refine lv_iconst (v := 0) hx hb dX3_isOfKind_36 (by decide) ?_
          rw [hQ]
          exact W.zret (v := 0) hx hb hr rfl (fun tQ htQ hWQ => ⟨0, rfl, Or.inr ⟨rfl, fun q => by rcases q with q9 | q9 | ⟨q9, q8⟩ | ⟨q9, q8⟩ | ⟨q9, q8⟩; exact c_49 q9.symm; exact c_43 q9.symm; exact absurd q8 (by decide); exact c_46 q9.symm; exact absurd q8 (by decide)⟩, by rw [htQ]⟩) (fun q hq => absurd hq List.not_mem_nil) dX3_isOfKind_37
        · skip
          refine lv_iconst (v := 1) hx hb dX3_isOfKind_22 (by decide) ?_
          rw [hQ]
          exact W.zret (v := 1) hx hb hr rfl (fun tQ htQ hWQ => ⟨1, rfl, Or.inl ⟨rfl, by rw [← c_49]; decide⟩, by rw [htQ]⟩) (fun q hq => absurd hq List.not_mem_nil) dX3_isOfKind_23
      · skip
        refine lv_iconst (v := 1) hx hb dX3_isOfKind_22 (by decide) ?_
        rw [hQ]
        exact W.zret (v := 1) hx hb hr rfl (fun tQ htQ hWQ => ⟨1, rfl, Or.inl ⟨rfl, by rw [← c_46]; decide⟩, by rw [htQ]⟩) (fun q hq => absurd hq List.not_mem_nil) dX3_isOfKind_23
    · skip
      refine lv_iconst (v := 1) hx hb dX3_isOfKind_22 (by decide) ?_
      rw [hQ]
      exact W.zret (v := 1) hx hb hr rfl (fun tQ htQ hWQ => ⟨1, rfl, Or.inl ⟨rfl, by rw [← c_43]; decide⟩, by rw [htQ]⟩) (fun q hq => absurd hq List.not_mem_nil) dX3_isOfKind_23
  · skip
    refine lv_aload_n hx hb dX3_isOfKind_0 rfl (lv_at hl 0 rfl) ?_
    refine va_get (D := (dC, dI)) (ci := 8) (v := .int 6) (C := RX6) (T := TX6) (N := 4) hx hb hts kc_isOfKind_X6_1 hown hZ.2.1 (hZ.P hS) 0 rfl rfl 0 (by decide) (hts (.fieldLink RX3 9 "MistHeaps$Heap" "kind" "I") kc_isOfKind_X6_0) (fun _ h9 => h9) rfl dX3_isOfKind_1 ?_
    refine lv_istore_n (lv' := [(2, .int 6), (0, .ref a0), (1, .int x)]) hx hb dX3_isOfKind_4 rfl hl (by decide) rfl (fun ls hl => ?_)
    refine lv_iconst (v := 0) hx hb dX3_isOfKind_5 (by decide) ?_
    refine lv_istore_n (lv' := [(3, .int 0), (2, .int 6), (0, .ref a0), (1, .int x)]) hx hb dX3_isOfKind_6 rfl hl (by decide) rfl (fun ls hl => ?_)
    refine lv_iload_n hx hb dX3_isOfKind_7 rfl (lv_at hl 0 rfl) ?_
    refine lv_bipush (v := 7) hx hb dX3_isOfKind_8 (by decide) ?_
    refine lv_icmp_ge (tgt := 36) hx hb dX3_isOfKind_10 (by decide) (fun c_52 => absurd c_52 (by decide)) (fun _ => ?_)
    refine lv_iload_n hx hb dX3_isOfKind_13 rfl (lv_at hl 1 rfl) ?_
    refine lv_if_lt (tgt := 36) hx hb dX3_isOfKind_14 (by decide) (fun c_53 => absurd c_53 (by decide)) (fun _ => ?_)
    refine lv_iload_n hx hb dX3_isOfKind_17 rfl (lv_at hl 1 rfl) ?_
    refine lv_iload_n hx hb dX3_isOfKind_18 rfl (lv_at hl 3 rfl) ?_
    refine lv_icmp_ne (tgt := 24) hx hb dX3_isOfKind_19 (by decide) (fun c_54 => ?_) (fun c_54 => ?_)
    · skip
      refine va_getsN (C := "MistHeaps") (n := "KIND_ABOVE") (d := "[I") (v := .ref kA) hx hb hN_.2.1 hS hown (va_Nw.use rfl (hN_.1 (.fieldLinkNest RX3 24 "MistHeaps" "KIND_ABOVE" "[I" "MistHeaps") (by decide +kernel))) (fun _ h9 => h9) dX3_isOfKind_24 ?_
      refine lv_iload_n hx hb dX3_isOfKind_27 rfl (lv_at hl 1 rfl) ?_
      refine va_ti (v := .int 3) hx hb hN_.2.2 hS (vp_in_nI (n := 6) (N := 7) (by omega) (by omega)) rfl dX3_isOfKind_28 ?_
      refine lv_istore_n (lv' := [(2, .int 3), (3, .int 0), (0, .ref a0), (1, .int x)]) hx hb dX3_isOfKind_29 rfl hl (by decide) rfl (fun ls hl => ?_)
      refine lv_iinc (v := 1) (lv' := [(3, .int 1), (2, .int 3), (0, .ref a0), (1, .int x)]) hx hb dX3_isOfKind_30 hl (k := 1) rfl (by decide) (by decide) rfl (fun ls hl => ?_)
      refine lv_goto (tgt := 7) hx hb dX3_isOfKind_33 (by decide) ?_
      refine lv_iload_n hx hb dX3_isOfKind_7 rfl (lv_at hl 0 rfl) ?_
      refine lv_bipush (v := 7) hx hb dX3_isOfKind_8 (by decide) ?_
      refine lv_icmp_ge (tgt := 36) hx hb dX3_isOfKind_10 (by decide) (fun c_55 => absurd c_55 (by decide)) (fun _ => ?_)
      refine lv_iload_n hx hb dX3_isOfKind_13 rfl (lv_at hl 1 rfl) ?_
      refine lv_if_lt (tgt := 36) hx hb dX3_isOfKind_14 (by decide) (fun c_56 => absurd c_56 (by decide)) (fun _ => ?_)
      refine lv_iload_n hx hb dX3_isOfKind_17 rfl (lv_at hl 1 rfl) ?_
      refine lv_iload_n hx hb dX3_isOfKind_18 rfl (lv_at hl 3 rfl) ?_
      refine lv_icmp_ne (tgt := 24) hx hb dX3_isOfKind_19 (by decide) (fun c_57 => ?_) (fun c_57 => ?_)
      · skip
        refine va_getsN (C := "MistHeaps") (n := "KIND_ABOVE") (d := "[I") (v := .ref kA) hx hb hN_.2.1 hS hown (va_Nw.use rfl (hN_.1 (.fieldLinkNest RX3 24 "MistHeaps" "KIND_ABOVE" "[I" "MistHeaps") (by decide +kernel))) (fun _ h9 => h9) dX3_isOfKind_24 ?_
        refine lv_iload_n hx hb dX3_isOfKind_27 rfl (lv_at hl 1 rfl) ?_
        refine va_ti (v := .int 0) hx hb hN_.2.2 hS (vp_in_nI (n := 3) (N := 7) (by omega) (by omega)) rfl dX3_isOfKind_28 ?_
        refine lv_istore_n (lv' := [(2, .int 0), (3, .int 1), (0, .ref a0), (1, .int x)]) hx hb dX3_isOfKind_29 rfl hl (by decide) rfl (fun ls hl => ?_)
        refine lv_iinc (v := 2) (lv' := [(3, .int 2), (2, .int 0), (0, .ref a0), (1, .int x)]) hx hb dX3_isOfKind_30 hl (k := 1) rfl (by decide) (by decide) rfl (fun ls hl => ?_)
        refine lv_goto (tgt := 7) hx hb dX3_isOfKind_33 (by decide) ?_
        refine lv_iload_n hx hb dX3_isOfKind_7 rfl (lv_at hl 0 rfl) ?_
        refine lv_bipush (v := 7) hx hb dX3_isOfKind_8 (by decide) ?_
        refine lv_icmp_ge (tgt := 36) hx hb dX3_isOfKind_10 (by decide) (fun c_58 => absurd c_58 (by decide)) (fun _ => ?_)
        refine lv_iload_n hx hb dX3_isOfKind_13 rfl (lv_at hl 1 rfl) ?_
        refine lv_if_lt (tgt := 36) hx hb dX3_isOfKind_14 (by decide) (fun c_59 => absurd c_59 (by decide)) (fun _ => ?_)
        refine lv_iload_n hx hb dX3_isOfKind_17 rfl (lv_at hl 1 rfl) ?_
        refine lv_iload_n hx hb dX3_isOfKind_18 rfl (lv_at hl 3 rfl) ?_
        refine lv_icmp_ne (tgt := 24) hx hb dX3_isOfKind_19 (by decide) (fun c_60 => ?_) (fun c_60 => ?_)
        · skip
          refine va_getsN (C := "MistHeaps") (n := "KIND_ABOVE") (d := "[I") (v := .ref kA) hx hb hN_.2.1 hS hown (va_Nw.use rfl (hN_.1 (.fieldLinkNest RX3 24 "MistHeaps" "KIND_ABOVE" "[I" "MistHeaps") (by decide +kernel))) (fun _ h9 => h9) dX3_isOfKind_24 ?_
          refine lv_iload_n hx hb dX3_isOfKind_27 rfl (lv_at hl 1 rfl) ?_
          refine va_ti (v := .int (-1)) hx hb hN_.2.2 hS (vp_in_nI (n := 0) (N := 7) (by omega) (by omega)) rfl dX3_isOfKind_28 ?_
          refine lv_istore_n (lv' := [(2, .int (-1)), (3, .int 2), (0, .ref a0), (1, .int x)]) hx hb dX3_isOfKind_29 rfl hl (by decide) rfl (fun ls hl => ?_)
          refine lv_iinc (v := 3) (lv' := [(3, .int 3), (2, .int (-1)), (0, .ref a0), (1, .int x)]) hx hb dX3_isOfKind_30 hl (k := 1) rfl (by decide) (by decide) rfl (fun ls hl => ?_)
          refine lv_goto (tgt := 7) hx hb dX3_isOfKind_33 (by decide) ?_
          refine lv_iload_n hx hb dX3_isOfKind_7 rfl (lv_at hl 0 rfl) ?_
          refine lv_bipush (v := 7) hx hb dX3_isOfKind_8 (by decide) ?_
          refine lv_icmp_ge (tgt := 36) hx hb dX3_isOfKind_10 (by decide) (fun c_61 => absurd c_61 (by decide)) (fun _ => ?_)
          refine lv_iload_n hx hb dX3_isOfKind_13 rfl (lv_at hl 1 rfl) ?_
          refine lv_if_lt (tgt := 36) hx hb dX3_isOfKind_14 (by decide) (fun _ => ?_) (fun c_62 => absurd c_62 (by decide))
          refine lv_iconst (v := 0) hx hb dX3_isOfKind_36 (by decide) ?_
          rw [hQ]
          exact W.zret (v := 0) hx hb hr rfl (fun tQ htQ hWQ => ⟨0, rfl, Or.inr ⟨rfl, fun q => by rcases q with q9 | q9 | ⟨q9, q8⟩ | ⟨q9, q8⟩ | ⟨q9, q8⟩; exact c_60 q9.symm; exact c_54 q9.symm; exact absurd q8 (by decide); exact absurd q8 (by decide); exact c_57 q9.symm⟩, by rw [htQ]⟩) (fun q hq => absurd hq List.not_mem_nil) dX3_isOfKind_37
        · skip
          refine lv_iconst (v := 1) hx hb dX3_isOfKind_22 (by decide) ?_
          rw [hQ]
          exact W.zret (v := 1) hx hb hr rfl (fun tQ htQ hWQ => ⟨1, rfl, Or.inl ⟨rfl, by rw [← c_60]; decide⟩, by rw [htQ]⟩) (fun q hq => absurd hq List.not_mem_nil) dX3_isOfKind_23
      · skip
        refine lv_iconst (v := 1) hx hb dX3_isOfKind_22 (by decide) ?_
        rw [hQ]
        exact W.zret (v := 1) hx hb hr rfl (fun tQ htQ hWQ => ⟨1, rfl, Or.inl ⟨rfl, by rw [← c_57]; decide⟩, by rw [htQ]⟩) (fun q hq => absurd hq List.not_mem_nil) dX3_isOfKind_23
    · skip
      refine lv_iconst (v := 1) hx hb dX3_isOfKind_22 (by decide) ?_
      rw [hQ]
      exact W.zret (v := 1) hx hb hr rfl (fun tQ htQ hWQ => ⟨1, rfl, Or.inl ⟨rfl, by rw [← c_54]; decide⟩, by rw [htQ]⟩) (fun q hq => absurd hq List.not_mem_nil) dX3_isOfKind_23

theorem kc_isOfKind_X1_0 : (.fieldLink RX3 9 "MistHeaps$Heap" "kind" "I" : Cond) ∈ wsX3_isOfKind := kc_of 228 rfl rfl rfl
theorem kc_isOfKind_X1_1 : ∀ w ∈ wsX10, w ∈ wsX3_isOfKind := fun w h => List.mem_cons_of_mem _ (gin_wsX10 w h)
set_option maxHeartbeats 4000000 in
set_option maxRecDepth 100000 in
theorem c_isOfKind_X1 (l : Launch) (dC : Nat → ClassId) (dI : Nat → Nat → Nat) (kA : Nat)  (i0 : Nat) (sk : Int32) (sv : Int32) (scl : Int32) (x : Int32) (a0 : Nat) (zk7 : ∃ k7 : Nat, k7 < 7 ∧ sk = nI k7) : Met l yX3_isOfKind wsX3_isOfKind ({ frames := 0, cells := 0, slots := 0, locals := 0 } : Room) (va_Pc [.ref a0, .int x] (fun U => Gn kA (fun _ => False) U ∧ Fz dC dI [(zo3iiii a0 sk (nI i0) sv scl)] [] (fun _ => False) U)) (vp_Si (fun r => (r = 1 ∧ isU sk x) ∨ (r = 0 ∧ ¬ isU sk x))) 0 0 (fun _ => False) := by
  refine met_ofQ (cc := cX3_isOfKind) (maxL := 4) (ret := (some .boolean)) (by decide) rfl ?_
  intro p e s m args below meth c s₁ Q B hml hv hQ
  obtain ⟨rfl, hN_, hZ⟩ := hv
  have hx := B.exec
  have hb := B.bytes
  have hr := B.returns
  have hts := atoms_spec (ws := wsX3_isOfKind) B.pre
  have hown : s.vm.findClass RX3 = some m.cls := findClass_of_methodNamed B.named
  have hlocks := B.notSynchronized
  obtain ⟨A, hAe⟩ : ∃ A : Nat → Prop, A = fun _ => False := ⟨_, rfl⟩
  rw [← hAe] at hQ hN_ hZ
  have hS : va_S A s.heap s.heap [] := va_S.rf
  have hl := lv_entry [.ref a0, .int x] (n := 4) (Nat.le_of_ble_eq_true rfl)
  rw [lg_entry_eq]
  generalize (lg_sl [.ref a0, .int x] ++ List.replicate (4 - (lg_sl [.ref a0, .int x]).length) Slot.unset).toArray = ls at hl ⊢
  generalize hag : ([.ref a0, .int x] : List Value).toArray = args at hts hQ ⊢
  have hl : lv_has ls 4 [(0, .ref a0), (1, .int x)] := hl
  rcases kd7 zk7 with rfl | rfl | rfl | rfl | rfl | rfl | rfl
  · skip
    refine lv_aload_n hx hb dX3_isOfKind_0 rfl (lv_at hl 0 rfl) ?_
    refine va_get (D := (dC, dI)) (ci := 3) (v := .int 0) (C := RX1) (T := TX1) (N := 4) hx hb hts kc_isOfKind_X1_1 hown hZ.2.1 (hZ.P hS) 0 rfl rfl 0 (by decide) (hts (.fieldLink RX3 9 "MistHeaps$Heap" "kind" "I") kc_isOfKind_X1_0) (fun _ h9 => h9) rfl dX3_isOfKind_1 ?_
    refine lv_istore_n (lv' := [(2, .int 0), (0, .ref a0), (1, .int x)]) hx hb dX3_isOfKind_4 rfl hl (by decide) rfl (fun ls hl => ?_)
    refine lv_iconst (v := 0) hx hb dX3_isOfKind_5 (by decide) ?_
    refine lv_istore_n (lv' := [(3, .int 0), (2, .int 0), (0, .ref a0), (1, .int x)]) hx hb dX3_isOfKind_6 rfl hl (by decide) rfl (fun ls hl => ?_)
    refine lv_iload_n hx hb dX3_isOfKind_7 rfl (lv_at hl 0 rfl) ?_
    refine lv_bipush (v := 7) hx hb dX3_isOfKind_8 (by decide) ?_
    refine lv_icmp_ge (tgt := 36) hx hb dX3_isOfKind_10 (by decide) (fun c_1 => absurd c_1 (by decide)) (fun _ => ?_)
    refine lv_iload_n hx hb dX3_isOfKind_13 rfl (lv_at hl 1 rfl) ?_
    refine lv_if_lt (tgt := 36) hx hb dX3_isOfKind_14 (by decide) (fun c_2 => absurd c_2 (by decide)) (fun _ => ?_)
    refine lv_iload_n hx hb dX3_isOfKind_17 rfl (lv_at hl 1 rfl) ?_
    refine lv_iload_n hx hb dX3_isOfKind_18 rfl (lv_at hl 3 rfl) ?_
    refine lv_icmp_ne (tgt := 24) hx hb dX3_isOfKind_19 (by decide) (fun c_3 => ?_) (fun c_3 => ?_)
    · skip
      refine va_getsN (C := "MistHeaps") (n := "KIND_ABOVE") (d := "[I") (v := .ref kA) hx hb hN_.2.1 hS hown (va_Nw.use rfl (hN_.1 (.fieldLinkNest RX3 24 "MistHeaps" "KIND_ABOVE" "[I" "MistHeaps") (by decide +kernel))) (fun _ h9 => h9) dX3_isOfKind_24 ?_
      refine lv_iload_n hx hb dX3_isOfKind_27 rfl (lv_at hl 1 rfl) ?_
      refine va_ti (v := .int (-1)) hx hb hN_.2.2 hS (vp_in_nI (n := 0) (N := 7) (by omega) (by omega)) rfl dX3_isOfKind_28 ?_
      refine lv_istore_n (lv' := [(2, .int (-1)), (3, .int 0), (0, .ref a0), (1, .int x)]) hx hb dX3_isOfKind_29 rfl hl (by decide) rfl (fun ls hl => ?_)
      refine lv_iinc (v := 1) (lv' := [(3, .int 1), (2, .int (-1)), (0, .ref a0), (1, .int x)]) hx hb dX3_isOfKind_30 hl (k := 1) rfl (by decide) (by decide) rfl (fun ls hl => ?_)
      refine lv_goto (tgt := 7) hx hb dX3_isOfKind_33 (by decide) ?_
      refine lv_iload_n hx hb dX3_isOfKind_7 rfl (lv_at hl 0 rfl) ?_
      refine lv_bipush (v := 7) hx hb dX3_isOfKind_8 (by decide) ?_
      refine lv_icmp_ge (tgt := 36) hx hb dX3_isOfKind_10 (by decide) (fun c_4 => absurd c_4 (by decide)) (fun _ => ?_)
      refine lv_iload_n hx hb dX3_isOfKind_13 rfl (lv_at hl 1 rfl) ?_
      refine lv_if_lt (tgt := 36) hx hb dX3_isOfKind_14 (by decide) (fun _ => ?_) (fun c_5 => absurd c_5 (by decide))
      refine lv_iconst (v := 0) hx hb dX3_isOfKind_36 (by decide) ?_
      rw [hQ]
      exact W.zret (v := 0) hx hb hr rfl (fun tQ htQ hWQ => ⟨0, rfl, Or.inr ⟨rfl, fun q => by rcases q with q9 | q9 | ⟨q9, q8⟩ | ⟨q9, q8⟩ | ⟨q9, q8⟩; exact c_3 q9.symm; exact c_3 q9.symm; exact absurd q8 (by decide); exact absurd q8 (by decide); exact absurd q8 (by decide)⟩, by rw [htQ]⟩) (fun q hq => absurd hq List.not_mem_nil) dX3_isOfKind_37
    · skip
      refine lv_iconst (v := 1) hx hb dX3_isOfKind_22 (by decide) ?_
      rw [hQ]
      exact W.zret (v := 1) hx hb hr rfl (fun tQ htQ hWQ => ⟨1, rfl, Or.inl ⟨rfl, by rw [← c_3]; decide⟩, by rw [htQ]⟩) (fun q hq => absurd hq List.not_mem_nil) dX3_isOfKind_23
  · skip
    refine lv_aload_n hx hb dX3_isOfKind_0 rfl (lv_at hl 0 rfl) ?_
    refine va_get (D := (dC, dI)) (ci := 3) (v := .int 1) (C := RX1) (T := TX1) (N := 4) hx hb hts kc_isOfKind_X1_1 hown hZ.2.1 (hZ.P hS) 0 rfl rfl 0 (by decide) (hts (.fieldLink RX3 9 "MistHeaps$Heap" "kind" "I") kc_isOfKind_X1_0) (fun _ h9 => h9) rfl dX3_isOfKind_1 ?_
    refine lv_istore_n (lv' := [(2, .int 1), (0, .ref a0), (1, .int x)]) hx hb dX3_isOfKind_4 rfl hl (by decide) rfl (fun ls hl => ?_)
    refine lv_iconst (v := 0) hx hb dX3_isOfKind_5 (by decide) ?_
    refine lv_istore_n (lv' := [(3, .int 0), (2, .int 1), (0, .ref a0), (1, .int x)]) hx hb dX3_isOfKind_6 rfl hl (by decide) rfl (fun ls hl => ?_)
    refine lv_iload_n hx hb dX3_isOfKind_7 rfl (lv_at hl 0 rfl) ?_
    refine lv_bipush (v := 7) hx hb dX3_isOfKind_8 (by decide) ?_
    refine lv_icmp_ge (tgt := 36) hx hb dX3_isOfKind_10 (by decide) (fun c_6 => absurd c_6 (by decide)) (fun _ => ?_)
    refine lv_iload_n hx hb dX3_isOfKind_13 rfl (lv_at hl 1 rfl) ?_
    refine lv_if_lt (tgt := 36) hx hb dX3_isOfKind_14 (by decide) (fun c_7 => absurd c_7 (by decide)) (fun _ => ?_)
    refine lv_iload_n hx hb dX3_isOfKind_17 rfl (lv_at hl 1 rfl) ?_
    refine lv_iload_n hx hb dX3_isOfKind_18 rfl (lv_at hl 3 rfl) ?_
    refine lv_icmp_ne (tgt := 24) hx hb dX3_isOfKind_19 (by decide) (fun c_8 => ?_) (fun c_8 => ?_)
    · skip
      refine va_getsN (C := "MistHeaps") (n := "KIND_ABOVE") (d := "[I") (v := .ref kA) hx hb hN_.2.1 hS hown (va_Nw.use rfl (hN_.1 (.fieldLinkNest RX3 24 "MistHeaps" "KIND_ABOVE" "[I" "MistHeaps") (by decide +kernel))) (fun _ h9 => h9) dX3_isOfKind_24 ?_
      refine lv_iload_n hx hb dX3_isOfKind_27 rfl (lv_at hl 1 rfl) ?_
      refine va_ti (v := .int 0) hx hb hN_.2.2 hS (vp_in_nI (n := 1) (N := 7) (by omega) (by omega)) rfl dX3_isOfKind_28 ?_
      refine lv_istore_n (lv' := [(2, .int 0), (3, .int 0), (0, .ref a0), (1, .int x)]) hx hb dX3_isOfKind_29 rfl hl (by decide) rfl (fun ls hl => ?_)
      refine lv_iinc (v := 1) (lv' := [(3, .int 1), (2, .int 0), (0, .ref a0), (1, .int x)]) hx hb dX3_isOfKind_30 hl (k := 1) rfl (by decide) (by decide) rfl (fun ls hl => ?_)
      refine lv_goto (tgt := 7) hx hb dX3_isOfKind_33 (by decide) ?_
      refine lv_iload_n hx hb dX3_isOfKind_7 rfl (lv_at hl 0 rfl) ?_
      refine lv_bipush (v := 7) hx hb dX3_isOfKind_8 (by decide) ?_
      refine lv_icmp_ge (tgt := 36) hx hb dX3_isOfKind_10 (by decide) (fun c_9 => absurd c_9 (by decide)) (fun _ => ?_)
      refine lv_iload_n hx hb dX3_isOfKind_13 rfl (lv_at hl 1 rfl) ?_
      refine lv_if_lt (tgt := 36) hx hb dX3_isOfKind_14 (by decide) (fun c_10 => absurd c_10 (by decide)) (fun _ => ?_)
      refine lv_iload_n hx hb dX3_isOfKind_17 rfl (lv_at hl 1 rfl) ?_
      refine lv_iload_n hx hb dX3_isOfKind_18 rfl (lv_at hl 3 rfl) ?_
      refine lv_icmp_ne (tgt := 24) hx hb dX3_isOfKind_19 (by decide) (fun c_11 => ?_) (fun c_11 => ?_)
      · skip
        refine va_getsN (C := "MistHeaps") (n := "KIND_ABOVE") (d := "[I") (v := .ref kA) hx hb hN_.2.1 hS hown (va_Nw.use rfl (hN_.1 (.fieldLinkNest RX3 24 "MistHeaps" "KIND_ABOVE" "[I" "MistHeaps") (by decide +kernel))) (fun _ h9 => h9) dX3_isOfKind_24 ?_
        refine lv_iload_n hx hb dX3_isOfKind_27 rfl (lv_at hl 1 rfl) ?_
        refine va_ti (v := .int (-1)) hx hb hN_.2.2 hS (vp_in_nI (n := 0) (N := 7) (by omega) (by omega)) rfl dX3_isOfKind_28 ?_
        refine lv_istore_n (lv' := [(2, .int (-1)), (3, .int 1), (0, .ref a0), (1, .int x)]) hx hb dX3_isOfKind_29 rfl hl (by decide) rfl (fun ls hl => ?_)
        refine lv_iinc (v := 2) (lv' := [(3, .int 2), (2, .int (-1)), (0, .ref a0), (1, .int x)]) hx hb dX3_isOfKind_30 hl (k := 1) rfl (by decide) (by decide) rfl (fun ls hl => ?_)
        refine lv_goto (tgt := 7) hx hb dX3_isOfKind_33 (by decide) ?_
        refine lv_iload_n hx hb dX3_isOfKind_7 rfl (lv_at hl 0 rfl) ?_
        refine lv_bipush (v := 7) hx hb dX3_isOfKind_8 (by decide) ?_
        refine lv_icmp_ge (tgt := 36) hx hb dX3_isOfKind_10 (by decide) (fun c_12 => absurd c_12 (by decide)) (fun _ => ?_)
        refine lv_iload_n hx hb dX3_isOfKind_13 rfl (lv_at hl 1 rfl) ?_
        refine lv_if_lt (tgt := 36) hx hb dX3_isOfKind_14 (by decide) (fun _ => ?_) (fun c_13 => absurd c_13 (by decide))
        refine lv_iconst (v := 0) hx hb dX3_isOfKind_36 (by decide) ?_
        rw [hQ]
        exact W.zret (v := 0) hx hb hr rfl (fun tQ htQ hWQ => ⟨0, rfl, Or.inr ⟨rfl, fun q => by rcases q with q9 | q9 | ⟨q9, q8⟩ | ⟨q9, q8⟩ | ⟨q9, q8⟩; exact c_11 q9.symm; exact c_8 q9.symm; exact absurd q8 (by decide); exact absurd q8 (by decide); exact absurd q8 (by decide)⟩, by rw [htQ]⟩) (fun q hq => absurd hq List.not_mem_nil) dX3_isOfKind_37
      · skip
        refine lv_iconst (v := 1) hx hb dX3_isOfKind_22 (by decide) ?_
        rw [hQ]
        exact W.zret (v := 1) hx hb hr rfl (fun tQ htQ hWQ => ⟨1, rfl, Or.inl ⟨rfl, by rw [← c_11]; decide⟩, by rw [htQ]⟩) (fun q hq => absurd hq List.not_mem_nil) dX3_isOfKind_23
    · skip
      refine lv_iconst (v := 1) hx hb dX3_isOfKind_22 (by decide) ?_
      rw [hQ]
      exact W.zret (v := 1) hx hb hr rfl (fun tQ htQ hWQ => ⟨1, rfl, Or.inl ⟨rfl, by rw [← c_8]; decide⟩, by rw [htQ]⟩) (fun q hq => absurd hq List.not_mem_nil) dX3_isOfKind_23
  · skip
    refine lv_aload_n hx hb dX3_isOfKind_0 rfl (lv_at hl 0 rfl) ?_
    refine va_get (D := (dC, dI)) (ci := 3) (v := .int 2) (C := RX1) (T := TX1) (N := 4) hx hb hts kc_isOfKind_X1_1 hown hZ.2.1 (hZ.P hS) 0 rfl rfl 0 (by decide) (hts (.fieldLink RX3 9 "MistHeaps$Heap" "kind" "I") kc_isOfKind_X1_0) (fun _ h9 => h9) rfl dX3_isOfKind_1 ?_
    refine lv_istore_n (lv' := [(2, .int 2), (0, .ref a0), (1, .int x)]) hx hb dX3_isOfKind_4 rfl hl (by decide) rfl (fun ls hl => ?_)
    refine lv_iconst (v := 0) hx hb dX3_isOfKind_5 (by decide) ?_
    refine lv_istore_n (lv' := [(3, .int 0), (2, .int 2), (0, .ref a0), (1, .int x)]) hx hb dX3_isOfKind_6 rfl hl (by decide) rfl (fun ls hl => ?_)
    refine lv_iload_n hx hb dX3_isOfKind_7 rfl (lv_at hl 0 rfl) ?_
    refine lv_bipush (v := 7) hx hb dX3_isOfKind_8 (by decide) ?_
    refine lv_icmp_ge (tgt := 36) hx hb dX3_isOfKind_10 (by decide) (fun c_14 => absurd c_14 (by decide)) (fun _ => ?_)
    refine lv_iload_n hx hb dX3_isOfKind_13 rfl (lv_at hl 1 rfl) ?_
    refine lv_if_lt (tgt := 36) hx hb dX3_isOfKind_14 (by decide) (fun c_15 => absurd c_15 (by decide)) (fun _ => ?_)
    refine lv_iload_n hx hb dX3_isOfKind_17 rfl (lv_at hl 1 rfl) ?_
    refine lv_iload_n hx hb dX3_isOfKind_18 rfl (lv_at hl 3 rfl) ?_
    refine lv_icmp_ne (tgt := 24) hx hb dX3_isOfKind_19 (by decide) (fun c_16 => ?_) (fun c_16 => ?_)
    · skip
      refine va_getsN (C := "MistHeaps") (n := "KIND_ABOVE") (d := "[I") (v := .ref kA) hx hb hN_.2.1 hS hown (va_Nw.use rfl (hN_.1 (.fieldLinkNest RX3 24 "MistHeaps" "KIND_ABOVE" "[I" "MistHeaps") (by decide +kernel))) (fun _ h9 => h9) dX3_isOfKind_24 ?_
      refine lv_iload_n hx hb dX3_isOfKind_27 rfl (lv_at hl 1 rfl) ?_
      refine va_ti (v := .int 0) hx hb hN_.2.2 hS (vp_in_nI (n := 2) (N := 7) (by omega) (by omega)) rfl dX3_isOfKind_28 ?_
      refine lv_istore_n (lv' := [(2, .int 0), (3, .int 0), (0, .ref a0), (1, .int x)]) hx hb dX3_isOfKind_29 rfl hl (by decide) rfl (fun ls hl => ?_)
      refine lv_iinc (v := 1) (lv' := [(3, .int 1), (2, .int 0), (0, .ref a0), (1, .int x)]) hx hb dX3_isOfKind_30 hl (k := 1) rfl (by decide) (by decide) rfl (fun ls hl => ?_)
      refine lv_goto (tgt := 7) hx hb dX3_isOfKind_33 (by decide) ?_
      refine lv_iload_n hx hb dX3_isOfKind_7 rfl (lv_at hl 0 rfl) ?_
      refine lv_bipush (v := 7) hx hb dX3_isOfKind_8 (by decide) ?_
      refine lv_icmp_ge (tgt := 36) hx hb dX3_isOfKind_10 (by decide) (fun c_17 => absurd c_17 (by decide)) (fun _ => ?_)
      refine lv_iload_n hx hb dX3_isOfKind_13 rfl (lv_at hl 1 rfl) ?_
      refine lv_if_lt (tgt := 36) hx hb dX3_isOfKind_14 (by decide) (fun c_18 => absurd c_18 (by decide)) (fun _ => ?_)
      refine lv_iload_n hx hb dX3_isOfKind_17 rfl (lv_at hl 1 rfl) ?_
      refine lv_iload_n hx hb dX3_isOfKind_18 rfl (lv_at hl 3 rfl) ?_
      refine lv_icmp_ne (tgt := 24) hx hb dX3_isOfKind_19 (by decide) (fun c_19 => ?_) (fun c_19 => ?_)
      · skip
        refine va_getsN (C := "MistHeaps") (n := "KIND_ABOVE") (d := "[I") (v := .ref kA) hx hb hN_.2.1 hS hown (va_Nw.use rfl (hN_.1 (.fieldLinkNest RX3 24 "MistHeaps" "KIND_ABOVE" "[I" "MistHeaps") (by decide +kernel))) (fun _ h9 => h9) dX3_isOfKind_24 ?_
        refine lv_iload_n hx hb dX3_isOfKind_27 rfl (lv_at hl 1 rfl) ?_
        refine va_ti (v := .int (-1)) hx hb hN_.2.2 hS (vp_in_nI (n := 0) (N := 7) (by omega) (by omega)) rfl dX3_isOfKind_28 ?_
        refine lv_istore_n (lv' := [(2, .int (-1)), (3, .int 1), (0, .ref a0), (1, .int x)]) hx hb dX3_isOfKind_29 rfl hl (by decide) rfl (fun ls hl => ?_)
        refine lv_iinc (v := 2) (lv' := [(3, .int 2), (2, .int (-1)), (0, .ref a0), (1, .int x)]) hx hb dX3_isOfKind_30 hl (k := 1) rfl (by decide) (by decide) rfl (fun ls hl => ?_)
        refine lv_goto (tgt := 7) hx hb dX3_isOfKind_33 (by decide) ?_
        refine lv_iload_n hx hb dX3_isOfKind_7 rfl (lv_at hl 0 rfl) ?_
        refine lv_bipush (v := 7) hx hb dX3_isOfKind_8 (by decide) ?_
        refine lv_icmp_ge (tgt := 36) hx hb dX3_isOfKind_10 (by decide) (fun c_20 => absurd c_20 (by decide)) (fun _ => ?_)
        refine lv_iload_n hx hb dX3_isOfKind_13 rfl (lv_at hl 1 rfl) ?_
        refine lv_if_lt (tgt := 36) hx hb dX3_isOfKind_14 (by decide) (fun _ => ?_) (fun c_21 => absurd c_21 (by decide))
        refine lv_iconst (v := 0) hx hb dX3_isOfKind_36 (by decide) ?_
        rw [hQ]
        exact W.zret (v := 0) hx hb hr rfl (fun tQ htQ hWQ => ⟨0, rfl, Or.inr ⟨rfl, fun q => by rcases q with q9 | q9 | ⟨q9, q8⟩ | ⟨q9, q8⟩ | ⟨q9, q8⟩; exact c_19 q9.symm; exact c_16 q9.symm; exact absurd q8 (by decide); exact absurd q8 (by decide); exact absurd q8 (by decide)⟩, by rw [htQ]⟩) (fun q hq => absurd hq List.not_mem_nil) dX3_isOfKind_37
      · skip
        refine lv_iconst (v := 1) hx hb dX3_isOfKind_22 (by decide) ?_
        rw [hQ]
        exact W.zret (v := 1) hx hb hr rfl (fun tQ htQ hWQ => ⟨1, rfl, Or.inl ⟨rfl, by rw [← c_19]; decide⟩, by rw [htQ]⟩) (fun q hq => absurd hq List.not_mem_nil) dX3_isOfKind_23
    · skip
      refine lv_iconst (v := 1) hx hb dX3_isOfKind_22 (by decide) ?_
      rw [hQ]
      exact W.zret (v := 1) hx hb hr rfl (fun tQ htQ hWQ => ⟨1, rfl, Or.inl ⟨rfl, by rw [← c_16]; decide⟩, by rw [htQ]⟩) (fun q hq => absurd hq List.not_mem_nil) dX3_isOfKind_23
  · skip
    refine lv_aload_n hx hb dX3_isOfKind_0 rfl (lv_at hl 0 rfl) ?_
    refine va_get (D := (dC, dI)) (ci := 3) (v := .int 3) (C := RX1) (T := TX1) (N := 4) hx hb hts kc_isOfKind_X1_1 hown hZ.2.1 (hZ.P hS) 0 rfl rfl 0 (by decide) (hts (.fieldLink RX3 9 "MistHeaps$Heap" "kind" "I") kc_isOfKind_X1_0) (fun _ h9 => h9) rfl dX3_isOfKind_1 ?_
    refine lv_istore_n (lv' := [(2, .int 3), (0, .ref a0), (1, .int x)]) hx hb dX3_isOfKind_4 rfl hl (by decide) rfl (fun ls hl => ?_)
    refine lv_iconst (v := 0) hx hb dX3_isOfKind_5 (by decide) ?_
    refine lv_istore_n (lv' := [(3, .int 0), (2, .int 3), (0, .ref a0), (1, .int x)]) hx hb dX3_isOfKind_6 rfl hl (by decide) rfl (fun ls hl => ?_)
    refine lv_iload_n hx hb dX3_isOfKind_7 rfl (lv_at hl 0 rfl) ?_
    refine lv_bipush (v := 7) hx hb dX3_isOfKind_8 (by decide) ?_
    refine lv_icmp_ge (tgt := 36) hx hb dX3_isOfKind_10 (by decide) (fun c_22 => absurd c_22 (by decide)) (fun _ => ?_)
    refine lv_iload_n hx hb dX3_isOfKind_13 rfl (lv_at hl 1 rfl) ?_
    refine lv_if_lt (tgt := 36) hx hb dX3_isOfKind_14 (by decide) (fun c_23 => absurd c_23 (by decide)) (fun _ => ?_)
    refine lv_iload_n hx hb dX3_isOfKind_17 rfl (lv_at hl 1 rfl) ?_
    refine lv_iload_n hx hb dX3_isOfKind_18 rfl (lv_at hl 3 rfl) ?_
    refine lv_icmp_ne (tgt := 24) hx hb dX3_isOfKind_19 (by decide) (fun c_24 => ?_) (fun c_24 => ?_)
    · skip
      refine va_getsN (C := "MistHeaps") (n := "KIND_ABOVE") (d := "[I") (v := .ref kA) hx hb hN_.2.1 hS hown (va_Nw.use rfl (hN_.1 (.fieldLinkNest RX3 24 "MistHeaps" "KIND_ABOVE" "[I" "MistHeaps") (by decide +kernel))) (fun _ h9 => h9) dX3_isOfKind_24 ?_
      refine lv_iload_n hx hb dX3_isOfKind_27 rfl (lv_at hl 1 rfl) ?_
      refine va_ti (v := .int 0) hx hb hN_.2.2 hS (vp_in_nI (n := 3) (N := 7) (by omega) (by omega)) rfl dX3_isOfKind_28 ?_
      refine lv_istore_n (lv' := [(2, .int 0), (3, .int 0), (0, .ref a0), (1, .int x)]) hx hb dX3_isOfKind_29 rfl hl (by decide) rfl (fun ls hl => ?_)
      refine lv_iinc (v := 1) (lv' := [(3, .int 1), (2, .int 0), (0, .ref a0), (1, .int x)]) hx hb dX3_isOfKind_30 hl (k := 1) rfl (by decide) (by decide) rfl (fun ls hl => ?_)
      refine lv_goto (tgt := 7) hx hb dX3_isOfKind_33 (by decide) ?_
      refine lv_iload_n hx hb dX3_isOfKind_7 rfl (lv_at hl 0 rfl) ?_
      refine lv_bipush (v := 7) hx hb dX3_isOfKind_8 (by decide) ?_
      refine lv_icmp_ge (tgt := 36) hx hb dX3_isOfKind_10 (by decide) (fun c_25 => absurd c_25 (by decide)) (fun _ => ?_)
      refine lv_iload_n hx hb dX3_isOfKind_13 rfl (lv_at hl 1 rfl) ?_
      refine lv_if_lt (tgt := 36) hx hb dX3_isOfKind_14 (by decide) (fun c_26 => absurd c_26 (by decide)) (fun _ => ?_)
      refine lv_iload_n hx hb dX3_isOfKind_17 rfl (lv_at hl 1 rfl) ?_
      refine lv_iload_n hx hb dX3_isOfKind_18 rfl (lv_at hl 3 rfl) ?_
      refine lv_icmp_ne (tgt := 24) hx hb dX3_isOfKind_19 (by decide) (fun c_27 => ?_) (fun c_27 => ?_)
      · skip
        refine va_getsN (C := "MistHeaps") (n := "KIND_ABOVE") (d := "[I") (v := .ref kA) hx hb hN_.2.1 hS hown (va_Nw.use rfl (hN_.1 (.fieldLinkNest RX3 24 "MistHeaps" "KIND_ABOVE" "[I" "MistHeaps") (by decide +kernel))) (fun _ h9 => h9) dX3_isOfKind_24 ?_
        refine lv_iload_n hx hb dX3_isOfKind_27 rfl (lv_at hl 1 rfl) ?_
        refine va_ti (v := .int (-1)) hx hb hN_.2.2 hS (vp_in_nI (n := 0) (N := 7) (by omega) (by omega)) rfl dX3_isOfKind_28 ?_
        refine lv_istore_n (lv' := [(2, .int (-1)), (3, .int 1), (0, .ref a0), (1, .int x)]) hx hb dX3_isOfKind_29 rfl hl (by decide) rfl (fun ls hl => ?_)
        refine lv_iinc (v := 2) (lv' := [(3, .int 2), (2, .int (-1)), (0, .ref a0), (1, .int x)]) hx hb dX3_isOfKind_30 hl (k := 1) rfl (by decide) (by decide) rfl (fun ls hl => ?_)
        refine lv_goto (tgt := 7) hx hb dX3_isOfKind_33 (by decide) ?_
        refine lv_iload_n hx hb dX3_isOfKind_7 rfl (lv_at hl 0 rfl) ?_
        refine lv_bipush (v := 7) hx hb dX3_isOfKind_8 (by decide) ?_
        refine lv_icmp_ge (tgt := 36) hx hb dX3_isOfKind_10 (by decide) (fun c_28 => absurd c_28 (by decide)) (fun _ => ?_)
        refine lv_iload_n hx hb dX3_isOfKind_13 rfl (lv_at hl 1 rfl) ?_
        refine lv_if_lt (tgt := 36) hx hb dX3_isOfKind_14 (by decide) (fun _ => ?_) (fun c_29 => absurd c_29 (by decide))
        refine lv_iconst (v := 0) hx hb dX3_isOfKind_36 (by decide) ?_
        rw [hQ]
        exact W.zret (v := 0) hx hb hr rfl (fun tQ htQ hWQ => ⟨0, rfl, Or.inr ⟨rfl, fun q => by rcases q with q9 | q9 | ⟨q9, q8⟩ | ⟨q9, q8⟩ | ⟨q9, q8⟩; exact c_27 q9.symm; exact c_24 q9.symm; exact absurd q8 (by decide); exact absurd q8 (by decide); exact absurd q8 (by decide)⟩, by rw [htQ]⟩) (fun q hq => absurd hq List.not_mem_nil) dX3_isOfKind_37
      · skip
        refine lv_iconst (v := 1) hx hb dX3_isOfKind_22 (by decide) ?_
        rw [hQ]
        exact W.zret (v := 1) hx hb hr rfl (fun tQ htQ hWQ => ⟨1, rfl, Or.inl ⟨rfl, by rw [← c_27]; decide⟩, by rw [htQ]⟩) (fun q hq => absurd hq List.not_mem_nil) dX3_isOfKind_23
    · skip
      refine lv_iconst (v := 1) hx hb dX3_isOfKind_22 (by decide) ?_
      rw [hQ]
      exact W.zret (v := 1) hx hb hr rfl (fun tQ htQ hWQ => ⟨1, rfl, Or.inl ⟨rfl, by rw [← c_24]; decide⟩, by rw [htQ]⟩) (fun q hq => absurd hq List.not_mem_nil) dX3_isOfKind_23
  · skip
    refine lv_aload_n hx hb dX3_isOfKind_0 rfl (lv_at hl 0 rfl) ?_
    refine va_get (D := (dC, dI)) (ci := 3) (v := .int 4) (C := RX1) (T := TX1) (N := 4) hx hb hts kc_isOfKind_X1_1 hown hZ.2.1 (hZ.P hS) 0 rfl rfl 0 (by decide) (hts (.fieldLink RX3 9 "MistHeaps$Heap" "kind" "I") kc_isOfKind_X1_0) (fun _ h9 => h9) rfl dX3_isOfKind_1 ?_
    refine lv_istore_n (lv' := [(2, .int 4), (0, .ref a0), (1, .int x)]) hx hb dX3_isOfKind_4 rfl hl (by decide) rfl (fun ls hl => ?_)
    refine lv_iconst (v := 0) hx hb dX3_isOfKind_5 (by decide) ?_
    refine lv_istore_n (lv' := [(3, .int 0), (2, .int 4), (0, .ref a0), (1, .int x)]) hx hb dX3_isOfKind_6 rfl hl (by decide) rfl (fun ls hl => ?_)
    refine lv_iload_n hx hb dX3_isOfKind_7 rfl (lv_at hl 0 rfl) ?_
    refine lv_bipush (v := 7) hx hb dX3_isOfKind_8 (by decide) ?_
    refine lv_icmp_ge (tgt := 36) hx hb dX3_isOfKind_10 (by decide) (fun c_30 => absurd c_30 (by decide)) (fun _ => ?_)
    refine lv_iload_n hx hb dX3_isOfKind_13 rfl (lv_at hl 1 rfl) ?_
    refine lv_if_lt (tgt := 36) hx hb dX3_isOfKind_14 (by decide) (fun c_31 => absurd c_31 (by decide)) (fun _ => ?_)
    refine lv_iload_n hx hb dX3_isOfKind_17 rfl (lv_at hl 1 rfl) ?_
    refine lv_iload_n hx hb dX3_isOfKind_18 rfl (lv_at hl 3 rfl) ?_
    refine lv_icmp_ne (tgt := 24) hx hb dX3_isOfKind_19 (by decide) (fun c_32 => ?_) (fun c_32 => ?_)
    · skip
      refine va_getsN (C := "MistHeaps") (n := "KIND_ABOVE") (d := "[I") (v := .ref kA) hx hb hN_.2.1 hS hown (va_Nw.use rfl (hN_.1 (.fieldLinkNest RX3 24 "MistHeaps" "KIND_ABOVE" "[I" "MistHeaps") (by decide +kernel))) (fun _ h9 => h9) dX3_isOfKind_24 ?_
      refine lv_iload_n hx hb dX3_isOfKind_27 rfl (lv_at hl 1 rfl) ?_
      refine va_ti (v := .int 1) hx hb hN_.2.2 hS (vp_in_nI (n := 4) (N := 7) (by omega) (by omega)) rfl dX3_isOfKind_28 ?_
      refine lv_istore_n (lv' := [(2, .int 1), (3, .int 0), (0, .ref a0), (1, .int x)]) hx hb dX3_isOfKind_29 rfl hl (by decide) rfl (fun ls hl => ?_)
      refine lv_iinc (v := 1) (lv' := [(3, .int 1), (2, .int 1), (0, .ref a0), (1, .int x)]) hx hb dX3_isOfKind_30 hl (k := 1) rfl (by decide) (by decide) rfl (fun ls hl => ?_)
      refine lv_goto (tgt := 7) hx hb dX3_isOfKind_33 (by decide) ?_
      refine lv_iload_n hx hb dX3_isOfKind_7 rfl (lv_at hl 0 rfl) ?_
      refine lv_bipush (v := 7) hx hb dX3_isOfKind_8 (by decide) ?_
      refine lv_icmp_ge (tgt := 36) hx hb dX3_isOfKind_10 (by decide) (fun c_33 => absurd c_33 (by decide)) (fun _ => ?_)
      refine lv_iload_n hx hb dX3_isOfKind_13 rfl (lv_at hl 1 rfl) ?_
      refine lv_if_lt (tgt := 36) hx hb dX3_isOfKind_14 (by decide) (fun c_34 => absurd c_34 (by decide)) (fun _ => ?_)
      refine lv_iload_n hx hb dX3_isOfKind_17 rfl (lv_at hl 1 rfl) ?_
      refine lv_iload_n hx hb dX3_isOfKind_18 rfl (lv_at hl 3 rfl) ?_
      refine lv_icmp_ne (tgt := 24) hx hb dX3_isOfKind_19 (by decide) (fun c_35 => ?_) (fun c_35 => ?_)
      · skip
        refine va_getsN (C := "MistHeaps") (n := "KIND_ABOVE") (d := "[I") (v := .ref kA) hx hb hN_.2.1 hS hown (va_Nw.use rfl (hN_.1 (.fieldLinkNest RX3 24 "MistHeaps" "KIND_ABOVE" "[I" "MistHeaps") (by decide +kernel))) (fun _ h9 => h9) dX3_isOfKind_24 ?_
        refine lv_iload_n hx hb dX3_isOfKind_27 rfl (lv_at hl 1 rfl) ?_
        refine va_ti (v := .int 0) hx hb hN_.2.2 hS (vp_in_nI (n := 1) (N := 7) (by omega) (by omega)) rfl dX3_isOfKind_28 ?_
        refine lv_istore_n (lv' := [(2, .int 0), (3, .int 1), (0, .ref a0), (1, .int x)]) hx hb dX3_isOfKind_29 rfl hl (by decide) rfl (fun ls hl => ?_)
        refine lv_iinc (v := 2) (lv' := [(3, .int 2), (2, .int 0), (0, .ref a0), (1, .int x)]) hx hb dX3_isOfKind_30 hl (k := 1) rfl (by decide) (by decide) rfl (fun ls hl => ?_)
        refine lv_goto (tgt := 7) hx hb dX3_isOfKind_33 (by decide) ?_
        refine lv_iload_n hx hb dX3_isOfKind_7 rfl (lv_at hl 0 rfl) ?_
        refine lv_bipush (v := 7) hx hb dX3_isOfKind_8 (by decide) ?_
        refine lv_icmp_ge (tgt := 36) hx hb dX3_isOfKind_10 (by decide) (fun c_36 => absurd c_36 (by decide)) (fun _ => ?_)
        refine lv_iload_n hx hb dX3_isOfKind_13 rfl (lv_at hl 1 rfl) ?_
        refine lv_if_lt (tgt := 36) hx hb dX3_isOfKind_14 (by decide) (fun c_37 => absurd c_37 (by decide)) (fun _ => ?_)
        refine lv_iload_n hx hb dX3_isOfKind_17 rfl (lv_at hl 1 rfl) ?_
        refine lv_iload_n hx hb dX3_isOfKind_18 rfl (lv_at hl 3 rfl) ?_
        refine lv_icmp_ne (tgt := 24) hx hb dX3_isOfKind_19 (by decide) (fun c_38 => ?_) (fun c_38 => ?_)
        · skip
          refine va_getsN (C := "MistHeaps") (n := "KIND_ABOVE") (d := "[I") (v := .ref kA) hx hb hN_.2.1 hS hown (va_Nw.use rfl (hN_.1 (.fieldLinkNest RX3 24 "MistHeaps" "KIND_ABOVE" "[I" "MistHeaps") (by decide +kernel))) (fun _ h9 => h9) dX3_isOfKind_24 ?_
          refine lv_iload_n hx hb dX3_isOfKind_27 rfl (lv_at hl 1 rfl) ?_
          refine va_ti (v := .int (-1)) hx hb hN_.2.2 hS (vp_in_nI (n := 0) (N := 7) (by omega) (by omega)) rfl dX3_isOfKind_28 ?_
          refine lv_istore_n (lv' := [(2, .int (-1)), (3, .int 2), (0, .ref a0), (1, .int x)]) hx hb dX3_isOfKind_29 rfl hl (by decide) rfl (fun ls hl => ?_)
          refine lv_iinc (v := 3) (lv' := [(3, .int 3), (2, .int (-1)), (0, .ref a0), (1, .int x)]) hx hb dX3_isOfKind_30 hl (k := 1) rfl (by decide) (by decide) rfl (fun ls hl => ?_)
          refine lv_goto (tgt := 7) hx hb dX3_isOfKind_33 (by decide) ?_
          refine lv_iload_n hx hb dX3_isOfKind_7 rfl (lv_at hl 0 rfl) ?_
          refine lv_bipush (v := 7) hx hb dX3_isOfKind_8 (by decide) ?_
          refine lv_icmp_ge (tgt := 36) hx hb dX3_isOfKind_10 (by decide) (fun c_39 => absurd c_39 (by decide)) (fun _ => ?_)
          refine lv_iload_n hx hb dX3_isOfKind_13 rfl (lv_at hl 1 rfl) ?_
          refine lv_if_lt (tgt := 36) hx hb dX3_isOfKind_14 (by decide) (fun _ => ?_) (fun c_40 => absurd c_40 (by decide))
          refine lv_iconst (v := 0) hx hb dX3_isOfKind_36 (by decide) ?_
          rw [hQ]
          exact W.zret (v := 0) hx hb hr rfl (fun tQ htQ hWQ => ⟨0, rfl, Or.inr ⟨rfl, fun q => by rcases q with q9 | q9 | ⟨q9, q8⟩ | ⟨q9, q8⟩ | ⟨q9, q8⟩; exact c_38 q9.symm; exact c_32 q9.symm; exact c_35 q9.symm; exact absurd q8 (by decide); exact absurd q8 (by decide)⟩, by rw [htQ]⟩) (fun q hq => absurd hq List.not_mem_nil) dX3_isOfKind_37
        · skip
          refine lv_iconst (v := 1) hx hb dX3_isOfKind_22 (by decide) ?_
          rw [hQ]
          exact W.zret (v := 1) hx hb hr rfl (fun tQ htQ hWQ => ⟨1, rfl, Or.inl ⟨rfl, by rw [← c_38]; decide⟩, by rw [htQ]⟩) (fun q hq => absurd hq List.not_mem_nil) dX3_isOfKind_23
      · skip
        refine lv_iconst (v := 1) hx hb dX3_isOfKind_22 (by decide) ?_
        rw [hQ]
        exact W.zret (v := 1) hx hb hr rfl (fun tQ htQ hWQ => ⟨1, rfl, Or.inl ⟨rfl, by rw [← c_35]; decide⟩, by rw [htQ]⟩) (fun q hq => absurd hq List.not_mem_nil) dX3_isOfKind_23
    · skip
      refine lv_iconst (v := 1) hx hb dX3_isOfKind_22 (by decide) ?_
      rw [hQ]
      exact W.zret (v := 1) hx hb hr rfl (fun tQ htQ hWQ => ⟨1, rfl, Or.inl ⟨rfl, by rw [← c_32]; decide⟩, by rw [htQ]⟩) (fun q hq => absurd hq List.not_mem_nil) dX3_isOfKind_23
  · skip
    refine lv_aload_n hx hb dX3_isOfKind_0 rfl (lv_at hl 0 rfl) ?_
    refine va_get (D := (dC, dI)) (ci := 3) (v := .int 5) (C := RX1) (T := TX1) (N := 4) hx hb hts kc_isOfKind_X1_1 hown hZ.2.1 (hZ.P hS) 0 rfl rfl 0 (by decide) (hts (.fieldLink RX3 9 "MistHeaps$Heap" "kind" "I") kc_isOfKind_X1_0) (fun _ h9 => h9) rfl dX3_isOfKind_1 ?_
    refine lv_istore_n (lv' := [(2, .int 5), (0, .ref a0), (1, .int x)]) hx hb dX3_isOfKind_4 rfl hl (by decide) rfl (fun ls hl => ?_)
    refine lv_iconst (v := 0) hx hb dX3_isOfKind_5 (by decide) ?_
    refine lv_istore_n (lv' := [(3, .int 0), (2, .int 5), (0, .ref a0), (1, .int x)]) hx hb dX3_isOfKind_6 rfl hl (by decide) rfl (fun ls hl => ?_)
    refine lv_iload_n hx hb dX3_isOfKind_7 rfl (lv_at hl 0 rfl) ?_
    refine lv_bipush (v := 7) hx hb dX3_isOfKind_8 (by decide) ?_
    refine lv_icmp_ge (tgt := 36) hx hb dX3_isOfKind_10 (by decide) (fun c_41 => absurd c_41 (by decide)) (fun _ => ?_)
    refine lv_iload_n hx hb dX3_isOfKind_13 rfl (lv_at hl 1 rfl) ?_
    refine lv_if_lt (tgt := 36) hx hb dX3_isOfKind_14 (by decide) (fun c_42 => absurd c_42 (by decide)) (fun _ => ?_)
    refine lv_iload_n hx hb dX3_isOfKind_17 rfl (lv_at hl 1 rfl) ?_
    refine lv_iload_n hx hb dX3_isOfKind_18 rfl (lv_at hl 3 rfl) ?_
    refine lv_icmp_ne (tgt := 24) hx hb dX3_isOfKind_19 (by decide) (fun c_43 => ?_) (fun c_43 => ?_)
    · skip
      refine va_getsN (C := "MistHeaps") (n := "KIND_ABOVE") (d := "[I") (v := .ref kA) hx hb hN_.2.1 hS hown (va_Nw.use rfl (hN_.1 (.fieldLinkNest RX3 24 "MistHeaps" "KIND_ABOVE" "[I" "MistHeaps") (by decide +kernel))) (fun _ h9 => h9) dX3_isOfKind_24 ?_
      refine lv_iload_n hx hb dX3_isOfKind_27 rfl (lv_at hl 1 rfl) ?_
      refine va_ti (v := .int 2) hx hb hN_.2.2 hS (vp_in_nI (n := 5) (N := 7) (by omega) (by omega)) rfl dX3_isOfKind_28 ?_
      refine lv_istore_n (lv' := [(2, .int 2), (3, .int 0), (0, .ref a0), (1, .int x)]) hx hb dX3_isOfKind_29 rfl hl (by decide) rfl (fun ls hl => ?_)
      refine lv_iinc (v := 1) (lv' := [(3, .int 1), (2, .int 2), (0, .ref a0), (1, .int x)]) hx hb dX3_isOfKind_30 hl (k := 1) rfl (by decide) (by decide) rfl (fun ls hl => ?_)
      refine lv_goto (tgt := 7) hx hb dX3_isOfKind_33 (by decide) ?_
      refine lv_iload_n hx hb dX3_isOfKind_7 rfl (lv_at hl 0 rfl) ?_
      refine lv_bipush (v := 7) hx hb dX3_isOfKind_8 (by decide) ?_
      refine lv_icmp_ge (tgt := 36) hx hb dX3_isOfKind_10 (by decide) (fun c_44 => absurd c_44 (by decide)) (fun _ => ?_)
      refine lv_iload_n hx hb dX3_isOfKind_13 rfl (lv_at hl 1 rfl) ?_
      refine lv_if_lt (tgt := 36) hx hb dX3_isOfKind_14 (by decide) (fun c_45 => absurd c_45 (by decide)) (fun _ => ?_)
      refine lv_iload_n hx hb dX3_isOfKind_17 rfl (lv_at hl 1 rfl) ?_
      refine lv_iload_n hx hb dX3_isOfKind_18 rfl (lv_at hl 3 rfl) ?_
      refine lv_icmp_ne (tgt := 24) hx hb dX3_isOfKind_19 (by decide) (fun c_46 => ?_) (fun c_46 => ?_)
      · skip
        refine va_getsN (C := "MistHeaps") (n := "KIND_ABOVE") (d := "[I") (v := .ref kA) hx hb hN_.2.1 hS hown (va_Nw.use rfl (hN_.1 (.fieldLinkNest RX3 24 "MistHeaps" "KIND_ABOVE" "[I" "MistHeaps") (by decide +kernel))) (fun _ h9 => h9) dX3_isOfKind_24 ?_
        refine lv_iload_n hx hb dX3_isOfKind_27 rfl (lv_at hl 1 rfl) ?_
        refine va_ti (v := .int 0) hx hb hN_.2.2 hS (vp_in_nI (n := 2) (N := 7) (by omega) (by omega)) rfl dX3_isOfKind_28 ?_
        refine lv_istore_n (lv' := [(2, .int 0), (3, .int 1), (0, .ref a0), (1, .int x)]) hx hb dX3_isOfKind_29 rfl hl (by decide) rfl (fun ls hl => ?_)
        refine lv_iinc (v := 2) (lv' := [(3, .int 2), (2, .int 0), (0, .ref a0), (1, .int x)]) hx hb dX3_isOfKind_30 hl (k := 1) rfl (by decide) (by decide) rfl (fun ls hl => ?_)
        refine lv_goto (tgt := 7) hx hb dX3_isOfKind_33 (by decide) ?_
        refine lv_iload_n hx hb dX3_isOfKind_7 rfl (lv_at hl 0 rfl) ?_
        refine lv_bipush (v := 7) hx hb dX3_isOfKind_8 (by decide) ?_
        refine lv_icmp_ge (tgt := 36) hx hb dX3_isOfKind_10 (by decide) (fun c_47 => absurd c_47 (by decide)) (fun _ => ?_)
        refine lv_iload_n hx hb dX3_isOfKind_13 rfl (lv_at hl 1 rfl) ?_
        refine lv_if_lt (tgt := 36) hx hb dX3_isOfKind_14 (by decide) (fun c_48 => absurd c_48 (by decide)) (fun _ => ?_)
        refine lv_iload_n hx hb dX3_isOfKind_17 rfl (lv_at hl 1 rfl) ?_
        refine lv_iload_n hx hb dX3_isOfKind_18 rfl (lv_at hl 3 rfl) ?_
        refine lv_icmp_ne (tgt := 24) hx hb dX3_isOfKind_19 (by decide) (fun c_49 => ?_) (fun c_49 => ?_)
        · skip
          refine va_getsN (C := "MistHeaps") (n := "KIND_ABOVE") (d := "[I") (v := .ref kA) hx hb hN_.2.1 hS hown (va_Nw.use rfl (hN_.1 (.fieldLinkNest RX3 24 "MistHeaps" "KIND_ABOVE" "[I" "MistHeaps") (by decide +kernel))) (fun _ h9 => h9) dX3_isOfKind_24 ?_
          refine lv_iload_n hx hb dX3_isOfKind_27 rfl (lv_at hl 1 rfl) ?_
          refine va_ti (v := .int (-1)) hx hb hN_.2.2 hS (vp_in_nI (n := 0) (N := 7) (by omega) (by omega)) rfl dX3_isOfKind_28 ?_
          refine lv_istore_n (lv' := [(2, .int (-1)), (3, .int 2), (0, .ref a0), (1, .int x)]) hx hb dX3_isOfKind_29 rfl hl (by decide) rfl (fun ls hl => ?_)
          refine lv_iinc (v := 3) (lv' := [(3, .int 3), (2, .int (-1)), (0, .ref a0), (1, .int x)]) hx hb dX3_isOfKind_30 hl (k := 1) rfl (by decide) (by decide) rfl (fun ls hl => ?_)
          refine lv_goto (tgt := 7) hx hb dX3_isOfKind_33 (by decide) ?_
          refine lv_iload_n hx hb dX3_isOfKind_7 rfl (lv_at hl 0 rfl) ?_
          refine lv_bipush (v := 7) hx hb dX3_isOfKind_8 (by decide) ?_
          refine lv_icmp_ge (tgt := 36) hx hb dX3_isOfKind_10 (by decide) (fun c_50 => absurd c_50 (by decide)) (fun _ => ?_)
          refine lv_iload_n hx hb dX3_isOfKind_13 rfl (lv_at hl 1 rfl) ?_
          refine lv_if_lt (tgt := 36) hx hb dX3_isOfKind_14 (by decide) (fun _ => ?_) (fun c_51 => absurd c_51 (by decide))
          refine lv_iconst (v := 0) hx hb dX3_isOfKind_36 (by decide) ?_
          rw [hQ]
          exact W.zret (v := 0) hx hb hr rfl (fun tQ htQ hWQ => ⟨0, rfl, Or.inr ⟨rfl, fun q => by rcases q with q9 | q9 | ⟨q9, q8⟩ | ⟨q9, q8⟩ | ⟨q9, q8⟩; exact c_49 q9.symm; exact c_43 q9.symm; exact absurd q8 (by decide); exact c_46 q9.symm; exact absurd q8 (by decide)⟩, by rw [htQ]⟩) (fun q hq => absurd hq List.not_mem_nil) dX3_isOfKind_37
        · skip
          refine lv_iconst (v := 1) hx hb dX3_isOfKind_22 (by decide) ?_
          rw [hQ]
          exact W.zret (v := 1) hx hb hr rfl (fun tQ htQ hWQ => ⟨1, rfl, Or.inl ⟨rfl, by rw [← c_49]; decide⟩, by rw [htQ]⟩) (fun q hq => absurd hq List.not_mem_nil) dX3_isOfKind_23
      · skip
        refine lv_iconst (v := 1) hx hb dX3_isOfKind_22 (by decide) ?_
        rw [hQ]
        exact W.zret (v := 1) hx hb hr rfl (fun tQ htQ hWQ => ⟨1, rfl, Or.inl ⟨rfl, by rw [← c_46]; decide⟩, by rw [htQ]⟩) (fun q hq => absurd hq List.not_mem_nil) dX3_isOfKind_23
    · skip
      refine lv_iconst (v := 1) hx hb dX3_isOfKind_22 (by decide) ?_
      rw [hQ]
      exact W.zret (v := 1) hx hb hr rfl (fun tQ htQ hWQ => ⟨1, rfl, Or.inl ⟨rfl, by rw [← c_43]; decide⟩, by rw [htQ]⟩) (fun q hq => absurd hq List.not_mem_nil) dX3_isOfKind_23
  · skip
    refine lv_aload_n hx hb dX3_isOfKind_0 rfl (lv_at hl 0 rfl) ?_
    refine va_get (D := (dC, dI)) (ci := 3) (v := .int 6) (C := RX1) (T := TX1) (N := 4) hx hb hts kc_isOfKind_X1_1 hown hZ.2.1 (hZ.P hS) 0 rfl rfl 0 (by decide) (hts (.fieldLink RX3 9 "MistHeaps$Heap" "kind" "I") kc_isOfKind_X1_0) (fun _ h9 => h9) rfl dX3_isOfKind_1 ?_
    refine lv_istore_n (lv' := [(2, .int 6), (0, .ref a0), (1, .int x)]) hx hb dX3_isOfKind_4 rfl hl (by decide) rfl (fun ls hl => ?_)
    refine lv_iconst (v := 0) hx hb dX3_isOfKind_5 (by decide) ?_
    refine lv_istore_n (lv' := [(3, .int 0), (2, .int 6), (0, .ref a0), (1, .int x)]) hx hb dX3_isOfKind_6 rfl hl (by decide) rfl (fun ls hl => ?_)
    refine lv_iload_n hx hb dX3_isOfKind_7 rfl (lv_at hl 0 rfl) ?_
    refine lv_bipush (v := 7) hx hb dX3_isOfKind_8 (by decide) ?_
    refine lv_icmp_ge (tgt := 36) hx hb dX3_isOfKind_10 (by decide) (fun c_52 => absurd c_52 (by decide)) (fun _ => ?_)
    refine lv_iload_n hx hb dX3_isOfKind_13 rfl (lv_at hl 1 rfl) ?_
    refine lv_if_lt (tgt := 36) hx hb dX3_isOfKind_14 (by decide) (fun c_53 => absurd c_53 (by decide)) (fun _ => ?_)
    refine lv_iload_n hx hb dX3_isOfKind_17 rfl (lv_at hl 1 rfl) ?_
    refine lv_iload_n hx hb dX3_isOfKind_18 rfl (lv_at hl 3 rfl) ?_
    refine lv_icmp_ne (tgt := 24) hx hb dX3_isOfKind_19 (by decide) (fun c_54 => ?_) (fun c_54 => ?_)
    · skip
      refine va_getsN (C := "MistHeaps") (n := "KIND_ABOVE") (d := "[I") (v := .ref kA) hx hb hN_.2.1 hS hown (va_Nw.use rfl (hN_.1 (.fieldLinkNest RX3 24 "MistHeaps" "KIND_ABOVE" "[I" "MistHeaps") (by decide +kernel))) (fun _ h9 => h9) dX3_isOfKind_24 ?_
      refine lv_iload_n hx hb dX3_isOfKind_27 rfl (lv_at hl 1 rfl) ?_
      refine va_ti (v := .int 3) hx hb hN_.2.2 hS (vp_in_nI (n := 6) (N := 7) (by omega) (by omega)) rfl dX3_isOfKind_28 ?_
      refine lv_istore_n (lv' := [(2, .int 3), (3, .int 0), (0, .ref a0), (1, .int x)]) hx hb dX3_isOfKind_29 rfl hl (by decide) rfl (fun ls hl => ?_)
      refine lv_iinc (v := 1) (lv' := [(3, .int 1), (2, .int 3), (0, .ref a0), (1, .int x)]) hx hb dX3_isOfKind_30 hl (k := 1) rfl (by decide) (by decide) rfl (fun ls hl => ?_)
      refine lv_goto (tgt := 7) hx hb dX3_isOfKind_33 (by decide) ?_
      refine lv_iload_n hx hb dX3_isOfKind_7 rfl (lv_at hl 0 rfl) ?_
      refine lv_bipush (v := 7) hx hb dX3_isOfKind_8 (by decide) ?_
      refine lv_icmp_ge (tgt := 36) hx hb dX3_isOfKind_10 (by decide) (fun c_55 => absurd c_55 (by decide)) (fun _ => ?_)
      refine lv_iload_n hx hb dX3_isOfKind_13 rfl (lv_at hl 1 rfl) ?_
      refine lv_if_lt (tgt := 36) hx hb dX3_isOfKind_14 (by decide) (fun c_56 => absurd c_56 (by decide)) (fun _ => ?_)
      refine lv_iload_n hx hb dX3_isOfKind_17 rfl (lv_at hl 1 rfl) ?_
      refine lv_iload_n hx hb dX3_isOfKind_18 rfl (lv_at hl 3 rfl) ?_
      refine lv_icmp_ne (tgt := 24) hx hb dX3_isOfKind_19 (by decide) (fun c_57 => ?_) (fun c_57 => ?_)
      · skip
        refine va_getsN (C := "MistHeaps") (n := "KIND_ABOVE") (d := "[I") (v := .ref kA) hx hb hN_.2.1 hS hown (va_Nw.use rfl (hN_.1 (.fieldLinkNest RX3 24 "MistHeaps" "KIND_ABOVE" "[I" "MistHeaps") (by decide +kernel))) (fun _ h9 => h9) dX3_isOfKind_24 ?_
        refine lv_iload_n hx hb dX3_isOfKind_27 rfl (lv_at hl 1 rfl) ?_
        refine va_ti (v := .int 0) hx hb hN_.2.2 hS (vp_in_nI (n := 3) (N := 7) (by omega) (by omega)) rfl dX3_isOfKind_28 ?_
        refine lv_istore_n (lv' := [(2, .int 0), (3, .int 1), (0, .ref a0), (1, .int x)]) hx hb dX3_isOfKind_29 rfl hl (by decide) rfl (fun ls hl => ?_)
        refine lv_iinc (v := 2) (lv' := [(3, .int 2), (2, .int 0), (0, .ref a0), (1, .int x)]) hx hb dX3_isOfKind_30 hl (k := 1) rfl (by decide) (by decide) rfl (fun ls hl => ?_)
        refine lv_goto (tgt := 7) hx hb dX3_isOfKind_33 (by decide) ?_
        refine lv_iload_n hx hb dX3_isOfKind_7 rfl (lv_at hl 0 rfl) ?_
        refine lv_bipush (v := 7) hx hb dX3_isOfKind_8 (by decide) ?_
        refine lv_icmp_ge (tgt := 36) hx hb dX3_isOfKind_10 (by decide) (fun c_58 => absurd c_58 (by decide)) (fun _ => ?_)
        refine lv_iload_n hx hb dX3_isOfKind_13 rfl (lv_at hl 1 rfl) ?_
        refine lv_if_lt (tgt := 36) hx hb dX3_isOfKind_14 (by decide) (fun c_59 => absurd c_59 (by decide)) (fun _ => ?_)
        refine lv_iload_n hx hb dX3_isOfKind_17 rfl (lv_at hl 1 rfl) ?_
        refine lv_iload_n hx hb dX3_isOfKind_18 rfl (lv_at hl 3 rfl) ?_
        refine lv_icmp_ne (tgt := 24) hx hb dX3_isOfKind_19 (by decide) (fun c_60 => ?_) (fun c_60 => ?_)
        · skip
          refine va_getsN (C := "MistHeaps") (n := "KIND_ABOVE") (d := "[I") (v := .ref kA) hx hb hN_.2.1 hS hown (va_Nw.use rfl (hN_.1 (.fieldLinkNest RX3 24 "MistHeaps" "KIND_ABOVE" "[I" "MistHeaps") (by decide +kernel))) (fun _ h9 => h9) dX3_isOfKind_24 ?_
          refine lv_iload_n hx hb dX3_isOfKind_27 rfl (lv_at hl 1 rfl) ?_
          refine va_ti (v := .int (-1)) hx hb hN_.2.2 hS (vp_in_nI (n := 0) (N := 7) (by omega) (by omega)) rfl dX3_isOfKind_28 ?_
          refine lv_istore_n (lv' := [(2, .int (-1)), (3, .int 2), (0, .ref a0), (1, .int x)]) hx hb dX3_isOfKind_29 rfl hl (by decide) rfl (fun ls hl => ?_)
          refine lv_iinc (v := 3) (lv' := [(3, .int 3), (2, .int (-1)), (0, .ref a0), (1, .int x)]) hx hb dX3_isOfKind_30 hl (k := 1) rfl (by decide) (by decide) rfl (fun ls hl => ?_)
          refine lv_goto (tgt := 7) hx hb dX3_isOfKind_33 (by decide) ?_
          refine lv_iload_n hx hb dX3_isOfKind_7 rfl (lv_at hl 0 rfl) ?_
          refine lv_bipush (v := 7) hx hb dX3_isOfKind_8 (by decide) ?_
          refine lv_icmp_ge (tgt := 36) hx hb dX3_isOfKind_10 (by decide) (fun c_61 => absurd c_61 (by decide)) (fun _ => ?_)
          refine lv_iload_n hx hb dX3_isOfKind_13 rfl (lv_at hl 1 rfl) ?_
          refine lv_if_lt (tgt := 36) hx hb dX3_isOfKind_14 (by decide) (fun _ => ?_) (fun c_62 => absurd c_62 (by decide))
          refine lv_iconst (v := 0) hx hb dX3_isOfKind_36 (by decide) ?_
          rw [hQ]
          exact W.zret (v := 0) hx hb hr rfl (fun tQ htQ hWQ => ⟨0, rfl, Or.inr ⟨rfl, fun q => by rcases q with q9 | q9 | ⟨q9, q8⟩ | ⟨q9, q8⟩ | ⟨q9, q8⟩; exact c_60 q9.symm; exact c_54 q9.symm; exact absurd q8 (by decide); exact absurd q8 (by decide); exact c_57 q9.symm⟩, by rw [htQ]⟩) (fun q hq => absurd hq List.not_mem_nil) dX3_isOfKind_37
        · skip
          refine lv_iconst (v := 1) hx hb dX3_isOfKind_22 (by decide) ?_
          rw [hQ]
          exact W.zret (v := 1) hx hb hr rfl (fun tQ htQ hWQ => ⟨1, rfl, Or.inl ⟨rfl, by rw [← c_60]; decide⟩, by rw [htQ]⟩) (fun q hq => absurd hq List.not_mem_nil) dX3_isOfKind_23
      · skip
        refine lv_iconst (v := 1) hx hb dX3_isOfKind_22 (by decide) ?_
        rw [hQ]
        exact W.zret (v := 1) hx hb hr rfl (fun tQ htQ hWQ => ⟨1, rfl, Or.inl ⟨rfl, by rw [← c_57]; decide⟩, by rw [htQ]⟩) (fun q hq => absurd hq List.not_mem_nil) dX3_isOfKind_23
    · skip
      refine lv_iconst (v := 1) hx hb dX3_isOfKind_22 (by decide) ?_
      rw [hQ]
      exact W.zret (v := 1) hx hb hr rfl (fun tQ htQ hWQ => ⟨1, rfl, Or.inl ⟨rfl, by rw [← c_54]; decide⟩, by rw [htQ]⟩) (fun q hq => absurd hq List.not_mem_nil) dX3_isOfKind_23

theorem kc_isOfKind_X10_0 : (.fieldLink RX3 9 "MistHeaps$Heap" "kind" "I" : Cond) ∈ wsX3_isOfKind := kc_of 228 rfl rfl rfl
theorem kc_isOfKind_X10_1 : ∀ w ∈ wsX100, w ∈ wsX3_isOfKind := fun w h => List.mem_cons_of_mem _ (gin_wsX100 w h)
set_option maxHeartbeats 4000000 in
set_option maxRecDepth 100000 in
theorem c_isOfKind_X10 (l : Launch) (dC : Nat → ClassId) (dI : Nat → Nat → Nat) (kA : Nat)  (i0 : Nat) (sk : Int32) (sv : Int32) (scl : Int32) (x : Int32) (a0 : Nat) (zk7 : ∃ k7 : Nat, k7 < 7 ∧ sk = nI k7) : Met l yX3_isOfKind wsX3_isOfKind ({ frames := 0, cells := 0, slots := 0, locals := 0 } : Room) (va_Pc [.ref a0, .int x] (fun U => Gn kA (fun _ => False) U ∧ Fz dC dI [(zo12iiii a0 sk (nI i0) sv scl)] [] (fun _ => False) U)) (vp_Si (fun r => (r = 1 ∧ isU sk x) ∨ (r = 0 ∧ ¬ isU sk x))) 0 0 (fun _ => False) := by
  refine met_ofQ (cc := cX3_isOfKind) (maxL := 4) (ret := (some .boolean)) (by decide) rfl ?_
  intro p e s m args below meth c s₁ Q B hml hv hQ
  obtain ⟨rfl, hN_, hZ⟩ := hv
  have hx := B.exec
  have hb := B.bytes
  have hr := B.returns
  have hts := atoms_spec (ws := wsX3_isOfKind) B.pre
  have hown : s.vm.findClass RX3 = some m.cls := findClass_of_methodNamed B.named
  have hlocks := B.notSynchronized
  obtain ⟨A, hAe⟩ : ∃ A : Nat → Prop, A = fun _ => False := ⟨_, rfl⟩
  rw [← hAe] at hQ hN_ hZ
  have hS : va_S A s.heap s.heap [] := va_S.rf
  have hl := lv_entry [.ref a0, .int x] (n := 4) (Nat.le_of_ble_eq_true rfl)
  rw [lg_entry_eq]
  generalize (lg_sl [.ref a0, .int x] ++ List.replicate (4 - (lg_sl [.ref a0, .int x]).length) Slot.unset).toArray = ls at hl ⊢
  generalize hag : ([.ref a0, .int x] : List Value).toArray = args at hts hQ ⊢
  have hl : lv_has ls 4 [(0, .ref a0), (1, .int x)] := hl
  rcases kd7 zk7 with rfl | rfl | rfl | rfl | rfl | rfl | rfl
  · skip
    refine lv_aload_n hx hb dX3_isOfKind_0 rfl (lv_at hl 0 rfl) ?_
    refine va_get (D := (dC, dI)) (ci := 12) (v := .int 0) (C := RX10) (T := TX10) (N := 4) hx hb hts kc_isOfKind_X10_1 hown hZ.2.1 (hZ.P hS) 0 rfl rfl 0 (by decide) (hts (.fieldLink RX3 9 "MistHeaps$Heap" "kind" "I") kc_isOfKind_X10_0) (fun _ h9 => h9) rfl dX3_isOfKind_1 ?_
    refine lv_istore_n (lv' := [(2, .int 0), (0, .ref a0), (1, .int x)]) hx hb dX3_isOfKind_4 rfl hl (by decide) rfl (fun ls hl => ?_)
    refine lv_iconst (v := 0) hx hb dX3_isOfKind_5 (by decide) ?_
    refine lv_istore_n (lv' := [(3, .int 0), (2, .int 0), (0, .ref a0), (1, .int x)]) hx hb dX3_isOfKind_6 rfl hl (by decide) rfl (fun ls hl => ?_)
    refine lv_iload_n hx hb dX3_isOfKind_7 rfl (lv_at hl 0 rfl) ?_
    refine lv_bipush (v := 7) hx hb dX3_isOfKind_8 (by decide) ?_
    refine lv_icmp_ge (tgt := 36) hx hb dX3_isOfKind_10 (by decide) (fun c_1 => absurd c_1 (by decide)) (fun _ => ?_)
    refine lv_iload_n hx hb dX3_isOfKind_13 rfl (lv_at hl 1 rfl) ?_
    refine lv_if_lt (tgt := 36) hx hb dX3_isOfKind_14 (by decide) (fun c_2 => absurd c_2 (by decide)) (fun _ => ?_)
    refine lv_iload_n hx hb dX3_isOfKind_17 rfl (lv_at hl 1 rfl) ?_
    refine lv_iload_n hx hb dX3_isOfKind_18 rfl (lv_at hl 3 rfl) ?_
    refine lv_icmp_ne (tgt := 24) hx hb dX3_isOfKind_19 (by decide) (fun c_3 => ?_) (fun c_3 => ?_)
    · skip
      refine va_getsN (C := "MistHeaps") (n := "KIND_ABOVE") (d := "[I") (v := .ref kA) hx hb hN_.2.1 hS hown (va_Nw.use rfl (hN_.1 (.fieldLinkNest RX3 24 "MistHeaps" "KIND_ABOVE" "[I" "MistHeaps") (by decide +kernel))) (fun _ h9 => h9) dX3_isOfKind_24 ?_
      refine lv_iload_n hx hb dX3_isOfKind_27 rfl (lv_at hl 1 rfl) ?_
      refine va_ti (v := .int (-1)) hx hb hN_.2.2 hS (vp_in_nI (n := 0) (N := 7) (by omega) (by omega)) rfl dX3_isOfKind_28 ?_
      refine lv_istore_n (lv' := [(2, .int (-1)), (3, .int 0), (0, .ref a0), (1, .int x)]) hx hb dX3_isOfKind_29 rfl hl (by decide) rfl (fun ls hl => ?_)
      refine lv_iinc (v := 1) (lv' := [(3, .int 1), (2, .int (-1)), (0, .ref a0), (1, .int x)]) hx hb dX3_isOfKind_30 hl (k := 1) rfl (by decide) (by decide) rfl (fun ls hl => ?_)
      refine lv_goto (tgt := 7) hx hb dX3_isOfKind_33 (by decide) ?_
      refine lv_iload_n hx hb dX3_isOfKind_7 rfl (lv_at hl 0 rfl) ?_
      refine lv_bipush (v := 7) hx hb dX3_isOfKind_8 (by decide) ?_
      refine lv_icmp_ge (tgt := 36) hx hb dX3_isOfKind_10 (by decide) (fun c_4 => absurd c_4 (by decide)) (fun _ => ?_)
      refine lv_iload_n hx hb dX3_isOfKind_13 rfl (lv_at hl 1 rfl) ?_
      refine lv_if_lt (tgt := 36) hx hb dX3_isOfKind_14 (by decide) (fun _ => ?_) (fun c_5 => absurd c_5 (by decide))
      refine lv_iconst (v := 0) hx hb dX3_isOfKind_36 (by decide) ?_
      rw [hQ]
      exact W.zret (v := 0) hx hb hr rfl (fun tQ htQ hWQ => ⟨0, rfl, Or.inr ⟨rfl, fun q => by rcases q with q9 | q9 | ⟨q9, q8⟩ | ⟨q9, q8⟩ | ⟨q9, q8⟩; exact c_3 q9.symm; exact c_3 q9.symm; exact absurd q8 (by decide); exact absurd q8 (by decide); exact absurd q8 (by decide)⟩, by rw [htQ]⟩) (fun q hq => absurd hq List.not_mem_nil) dX3_isOfKind_37
    · skip
      refine lv_iconst (v := 1) hx hb dX3_isOfKind_22 (by decide) ?_
      rw [hQ]
      exact W.zret (v := 1) hx hb hr rfl (fun tQ htQ hWQ => ⟨1, rfl, Or.inl ⟨rfl, by rw [← c_3]; decide⟩, by rw [htQ]⟩) (fun q hq => absurd hq List.not_mem_nil) dX3_isOfKind_23
  · skip
    refine lv_aload_n hx hb dX3_isOfKind_0 rfl (lv_at hl 0 rfl) ?_
    refine va_get (D := (dC, dI)) (ci := 12) (v := .int 1) (C := RX10) (T := TX10) (N := 4) hx hb hts kc_isOfKind_X10_1 hown hZ.2.1 (hZ.P hS) 0 rfl rfl 0 (by decide) (hts (.fieldLink RX3 9 "MistHeaps$Heap" "kind" "I") kc_isOfKind_X10_0) (fun _ h9 => h9) rfl dX3_isOfKind_1 ?_
    refine lv_istore_n (lv' := [(2, .int 1), (0, .ref a0), (1, .int x)]) hx hb dX3_isOfKind_4 rfl hl (by decide) rfl (fun ls hl => ?_)
    refine lv_iconst (v := 0) hx hb dX3_isOfKind_5 (by decide) ?_
    refine lv_istore_n (lv' := [(3, .int 0), (2, .int 1), (0, .ref a0), (1, .int x)]) hx hb dX3_isOfKind_6 rfl hl (by decide) rfl (fun ls hl => ?_)
    refine lv_iload_n hx hb dX3_isOfKind_7 rfl (lv_at hl 0 rfl) ?_
    refine lv_bipush (v := 7) hx hb dX3_isOfKind_8 (by decide) ?_
    refine lv_icmp_ge (tgt := 36) hx hb dX3_isOfKind_10 (by decide) (fun c_6 => absurd c_6 (by decide)) (fun _ => ?_)
    refine lv_iload_n hx hb dX3_isOfKind_13 rfl (lv_at hl 1 rfl) ?_
    refine lv_if_lt (tgt := 36) hx hb dX3_isOfKind_14 (by decide) (fun c_7 => absurd c_7 (by decide)) (fun _ => ?_)
    refine lv_iload_n hx hb dX3_isOfKind_17 rfl (lv_at hl 1 rfl) ?_
    refine lv_iload_n hx hb dX3_isOfKind_18 rfl (lv_at hl 3 rfl) ?_
    refine lv_icmp_ne (tgt := 24) hx hb dX3_isOfKind_19 (by decide) (fun c_8 => ?_) (fun c_8 => ?_)
    · skip
      refine va_getsN (C := "MistHeaps") (n := "KIND_ABOVE") (d := "[I") (v := .ref kA) hx hb hN_.2.1 hS hown (va_Nw.use rfl (hN_.1 (.fieldLinkNest RX3 24 "MistHeaps" "KIND_ABOVE" "[I" "MistHeaps") (by decide +kernel))) (fun _ h9 => h9) dX3_isOfKind_24 ?_
      refine lv_iload_n hx hb dX3_isOfKind_27 rfl (lv_at hl 1 rfl) ?_
      refine va_ti (v := .int 0) hx hb hN_.2.2 hS (vp_in_nI (n := 1) (N := 7) (by omega) (by omega)) rfl dX3_isOfKind_28 ?_
      refine lv_istore_n (lv' := [(2, .int 0), (3, .int 0), (0, .ref a0), (1, .int x)]) hx hb dX3_isOfKind_29 rfl hl (by decide) rfl (fun ls hl => ?_)
      refine lv_iinc (v := 1) (lv' := [(3, .int 1), (2, .int 0), (0, .ref a0), (1, .int x)]) hx hb dX3_isOfKind_30 hl (k := 1) rfl (by decide) (by decide) rfl (fun ls hl => ?_)
      refine lv_goto (tgt := 7) hx hb dX3_isOfKind_33 (by decide) ?_
      refine lv_iload_n hx hb dX3_isOfKind_7 rfl (lv_at hl 0 rfl) ?_
      refine lv_bipush (v := 7) hx hb dX3_isOfKind_8 (by decide) ?_
      refine lv_icmp_ge (tgt := 36) hx hb dX3_isOfKind_10 (by decide) (fun c_9 => absurd c_9 (by decide)) (fun _ => ?_)
      refine lv_iload_n hx hb dX3_isOfKind_13 rfl (lv_at hl 1 rfl) ?_
      refine lv_if_lt (tgt := 36) hx hb dX3_isOfKind_14 (by decide) (fun c_10 => absurd c_10 (by decide)) (fun _ => ?_)
      refine lv_iload_n hx hb dX3_isOfKind_17 rfl (lv_at hl 1 rfl) ?_
      refine lv_iload_n hx hb dX3_isOfKind_18 rfl (lv_at hl 3 rfl) ?_
      refine lv_icmp_ne (tgt := 24) hx hb dX3_isOfKind_19 (by decide) (fun c_11 => ?_) (fun c_11 => ?_)
      · skip
        refine va_getsN (C := "MistHeaps") (n := "KIND_ABOVE") (d := "[I") (v := .ref kA) hx hb hN_.2.1 hS hown (va_Nw.use rfl (hN_.1 (.fieldLinkNest RX3 24 "MistHeaps" "KIND_ABOVE" "[I" "MistHeaps") (by decide +kernel))) (fun _ h9 => h9) dX3_isOfKind_24 ?_
        refine lv_iload_n hx hb dX3_isOfKind_27 rfl (lv_at hl 1 rfl) ?_
        refine va_ti (v := .int (-1)) hx hb hN_.2.2 hS (vp_in_nI (n := 0) (N := 7) (by omega) (by omega)) rfl dX3_isOfKind_28 ?_
        refine lv_istore_n (lv' := [(2, .int (-1)), (3, .int 1), (0, .ref a0), (1, .int x)]) hx hb dX3_isOfKind_29 rfl hl (by decide) rfl (fun ls hl => ?_)
        refine lv_iinc (v := 2) (lv' := [(3, .int 2), (2, .int (-1)), (0, .ref a0), (1, .int x)]) hx hb dX3_isOfKind_30 hl (k := 1) rfl (by decide) (by decide) rfl (fun ls hl => ?_)
        refine lv_goto (tgt := 7) hx hb dX3_isOfKind_33 (by decide) ?_
        refine lv_iload_n hx hb dX3_isOfKind_7 rfl (lv_at hl 0 rfl) ?_
        refine lv_bipush (v := 7) hx hb dX3_isOfKind_8 (by decide) ?_
        refine lv_icmp_ge (tgt := 36) hx hb dX3_isOfKind_10 (by decide) (fun c_12 => absurd c_12 (by decide)) (fun _ => ?_)
        refine lv_iload_n hx hb dX3_isOfKind_13 rfl (lv_at hl 1 rfl) ?_
        refine lv_if_lt (tgt := 36) hx hb dX3_isOfKind_14 (by decide) (fun _ => ?_) (fun c_13 => absurd c_13 (by decide))
        refine lv_iconst (v := 0) hx hb dX3_isOfKind_36 (by decide) ?_
        rw [hQ]
        exact W.zret (v := 0) hx hb hr rfl (fun tQ htQ hWQ => ⟨0, rfl, Or.inr ⟨rfl, fun q => by rcases q with q9 | q9 | ⟨q9, q8⟩ | ⟨q9, q8⟩ | ⟨q9, q8⟩; exact c_11 q9.symm; exact c_8 q9.symm; exact absurd q8 (by decide); exact absurd q8 (by decide); exact absurd q8 (by decide)⟩, by rw [htQ]⟩) (fun q hq => absurd hq List.not_mem_nil) dX3_isOfKind_37
      · skip
        refine lv_iconst (v := 1) hx hb dX3_isOfKind_22 (by decide) ?_
        rw [hQ]
        exact W.zret (v := 1) hx hb hr rfl (fun tQ htQ hWQ => ⟨1, rfl, Or.inl ⟨rfl, by rw [← c_11]; decide⟩, by rw [htQ]⟩) (fun q hq => absurd hq List.not_mem_nil) dX3_isOfKind_23
    · skip
      refine lv_iconst (v := 1) hx hb dX3_isOfKind_22 (by decide) ?_
      rw [hQ]
      exact W.zret (v := 1) hx hb hr rfl (fun tQ htQ hWQ => ⟨1, rfl, Or.inl ⟨rfl, by rw [← c_8]; decide⟩, by rw [htQ]⟩) (fun q hq => absurd hq List.not_mem_nil) dX3_isOfKind_23
  · skip
    refine lv_aload_n hx hb dX3_isOfKind_0 rfl (lv_at hl 0 rfl) ?_
    refine va_get (D := (dC, dI)) (ci := 12) (v := .int 2) (C := RX10) (T := TX10) (N := 4) hx hb hts kc_isOfKind_X10_1 hown hZ.2.1 (hZ.P hS) 0 rfl rfl 0 (by decide) (hts (.fieldLink RX3 9 "MistHeaps$Heap" "kind" "I") kc_isOfKind_X10_0) (fun _ h9 => h9) rfl dX3_isOfKind_1 ?_
    refine lv_istore_n (lv' := [(2, .int 2), (0, .ref a0), (1, .int x)]) hx hb dX3_isOfKind_4 rfl hl (by decide) rfl (fun ls hl => ?_)
    refine lv_iconst (v := 0) hx hb dX3_isOfKind_5 (by decide) ?_
    refine lv_istore_n (lv' := [(3, .int 0), (2, .int 2), (0, .ref a0), (1, .int x)]) hx hb dX3_isOfKind_6 rfl hl (by decide) rfl (fun ls hl => ?_)
    refine lv_iload_n hx hb dX3_isOfKind_7 rfl (lv_at hl 0 rfl) ?_
    refine lv_bipush (v := 7) hx hb dX3_isOfKind_8 (by decide) ?_
    refine lv_icmp_ge (tgt := 36) hx hb dX3_isOfKind_10 (by decide) (fun c_14 => absurd c_14 (by decide)) (fun _ => ?_)
    refine lv_iload_n hx hb dX3_isOfKind_13 rfl (lv_at hl 1 rfl) ?_
    refine lv_if_lt (tgt := 36) hx hb dX3_isOfKind_14 (by decide) (fun c_15 => absurd c_15 (by decide)) (fun _ => ?_)
    refine lv_iload_n hx hb dX3_isOfKind_17 rfl (lv_at hl 1 rfl) ?_
    refine lv_iload_n hx hb dX3_isOfKind_18 rfl (lv_at hl 3 rfl) ?_
    refine lv_icmp_ne (tgt := 24) hx hb dX3_isOfKind_19 (by decide) (fun c_16 => ?_) (fun c_16 => ?_)
    · skip
      refine va_getsN (C := "MistHeaps") (n := "KIND_ABOVE") (d := "[I") (v := .ref kA) hx hb hN_.2.1 hS hown (va_Nw.use rfl (hN_.1 (.fieldLinkNest RX3 24 "MistHeaps" "KIND_ABOVE" "[I" "MistHeaps") (by decide +kernel))) (fun _ h9 => h9) dX3_isOfKind_24 ?_
      refine lv_iload_n hx hb dX3_isOfKind_27 rfl (lv_at hl 1 rfl) ?_
      refine va_ti (v := .int 0) hx hb hN_.2.2 hS (vp_in_nI (n := 2) (N := 7) (by omega) (by omega)) rfl dX3_isOfKind_28 ?_
      refine lv_istore_n (lv' := [(2, .int 0), (3, .int 0), (0, .ref a0), (1, .int x)]) hx hb dX3_isOfKind_29 rfl hl (by decide) rfl (fun ls hl => ?_)
      refine lv_iinc (v := 1) (lv' := [(3, .int 1), (2, .int 0), (0, .ref a0), (1, .int x)]) hx hb dX3_isOfKind_30 hl (k := 1) rfl (by decide) (by decide) rfl (fun ls hl => ?_)
      refine lv_goto (tgt := 7) hx hb dX3_isOfKind_33 (by decide) ?_
      refine lv_iload_n hx hb dX3_isOfKind_7 rfl (lv_at hl 0 rfl) ?_
      refine lv_bipush (v := 7) hx hb dX3_isOfKind_8 (by decide) ?_
      refine lv_icmp_ge (tgt := 36) hx hb dX3_isOfKind_10 (by decide) (fun c_17 => absurd c_17 (by decide)) (fun _ => ?_)
      refine lv_iload_n hx hb dX3_isOfKind_13 rfl (lv_at hl 1 rfl) ?_
      refine lv_if_lt (tgt := 36) hx hb dX3_isOfKind_14 (by decide) (fun c_18 => absurd c_18 (by decide)) (fun _ => ?_)
      refine lv_iload_n hx hb dX3_isOfKind_17 rfl (lv_at hl 1 rfl) ?_
      refine lv_iload_n hx hb dX3_isOfKind_18 rfl (lv_at hl 3 rfl) ?_
      refine lv_icmp_ne (tgt := 24) hx hb dX3_isOfKind_19 (by decide) (fun c_19 => ?_) (fun c_19 => ?_)
      · skip
        refine va_getsN (C := "MistHeaps") (n := "KIND_ABOVE") (d := "[I") (v := .ref kA) hx hb hN_.2.1 hS hown (va_Nw.use rfl (hN_.1 (.fieldLinkNest RX3 24 "MistHeaps" "KIND_ABOVE" "[I" "MistHeaps") (by decide +kernel))) (fun _ h9 => h9) dX3_isOfKind_24 ?_
        refine lv_iload_n hx hb dX3_isOfKind_27 rfl (lv_at hl 1 rfl) ?_
        refine va_ti (v := .int (-1)) hx hb hN_.2.2 hS (vp_in_nI (n := 0) (N := 7) (by omega) (by omega)) rfl dX3_isOfKind_28 ?_
        refine lv_istore_n (lv' := [(2, .int (-1)), (3, .int 1), (0, .ref a0), (1, .int x)]) hx hb dX3_isOfKind_29 rfl hl (by decide) rfl (fun ls hl => ?_)
        refine lv_iinc (v := 2) (lv' := [(3, .int 2), (2, .int (-1)), (0, .ref a0), (1, .int x)]) hx hb dX3_isOfKind_30 hl (k := 1) rfl (by decide) (by decide) rfl (fun ls hl => ?_)
        refine lv_goto (tgt := 7) hx hb dX3_isOfKind_33 (by decide) ?_
        refine lv_iload_n hx hb dX3_isOfKind_7 rfl (lv_at hl 0 rfl) ?_
        refine lv_bipush (v := 7) hx hb dX3_isOfKind_8 (by decide) ?_
        refine lv_icmp_ge (tgt := 36) hx hb dX3_isOfKind_10 (by decide) (fun c_20 => absurd c_20 (by decide)) (fun _ => ?_)
        refine lv_iload_n hx hb dX3_isOfKind_13 rfl (lv_at hl 1 rfl) ?_
        refine lv_if_lt (tgt := 36) hx hb dX3_isOfKind_14 (by decide) (fun _ => ?_) (fun c_21 => absurd c_21 (by decide))
        refine lv_iconst (v := 0) hx hb dX3_isOfKind_36 (by decide) ?_
        rw [hQ]
        exact W.zret (v := 0) hx hb hr rfl (fun tQ htQ hWQ => ⟨0, rfl, Or.inr ⟨rfl, fun q => by rcases q with q9 | q9 | ⟨q9, q8⟩ | ⟨q9, q8⟩ | ⟨q9, q8⟩; exact c_19 q9.symm; exact c_16 q9.symm; exact absurd q8 (by decide); exact absurd q8 (by decide); exact absurd q8 (by decide)⟩, by rw [htQ]⟩) (fun q hq => absurd hq List.not_mem_nil) dX3_isOfKind_37
      · skip
        refine lv_iconst (v := 1) hx hb dX3_isOfKind_22 (by decide) ?_
        rw [hQ]
        exact W.zret (v := 1) hx hb hr rfl (fun tQ htQ hWQ => ⟨1, rfl, Or.inl ⟨rfl, by rw [← c_19]; decide⟩, by rw [htQ]⟩) (fun q hq => absurd hq List.not_mem_nil) dX3_isOfKind_23
    · skip
      refine lv_iconst (v := 1) hx hb dX3_isOfKind_22 (by decide) ?_
      rw [hQ]
      exact W.zret (v := 1) hx hb hr rfl (fun tQ htQ hWQ => ⟨1, rfl, Or.inl ⟨rfl, by rw [← c_16]; decide⟩, by rw [htQ]⟩) (fun q hq => absurd hq List.not_mem_nil) dX3_isOfKind_23
  · skip
    refine lv_aload_n hx hb dX3_isOfKind_0 rfl (lv_at hl 0 rfl) ?_
    refine va_get (D := (dC, dI)) (ci := 12) (v := .int 3) (C := RX10) (T := TX10) (N := 4) hx hb hts kc_isOfKind_X10_1 hown hZ.2.1 (hZ.P hS) 0 rfl rfl 0 (by decide) (hts (.fieldLink RX3 9 "MistHeaps$Heap" "kind" "I") kc_isOfKind_X10_0) (fun _ h9 => h9) rfl dX3_isOfKind_1 ?_
    refine lv_istore_n (lv' := [(2, .int 3), (0, .ref a0), (1, .int x)]) hx hb dX3_isOfKind_4 rfl hl (by decide) rfl (fun ls hl => ?_)
    refine lv_iconst (v := 0) hx hb dX3_isOfKind_5 (by decide) ?_
    refine lv_istore_n (lv' := [(3, .int 0), (2, .int 3), (0, .ref a0), (1, .int x)]) hx hb dX3_isOfKind_6 rfl hl (by decide) rfl (fun ls hl => ?_)
    refine lv_iload_n hx hb dX3_isOfKind_7 rfl (lv_at hl 0 rfl) ?_
    refine lv_bipush (v := 7) hx hb dX3_isOfKind_8 (by decide) ?_
    refine lv_icmp_ge (tgt := 36) hx hb dX3_isOfKind_10 (by decide) (fun c_22 => absurd c_22 (by decide)) (fun _ => ?_)
    refine lv_iload_n hx hb dX3_isOfKind_13 rfl (lv_at hl 1 rfl) ?_
    refine lv_if_lt (tgt := 36) hx hb dX3_isOfKind_14 (by decide) (fun c_23 => absurd c_23 (by decide)) (fun _ => ?_)
    refine lv_iload_n hx hb dX3_isOfKind_17 rfl (lv_at hl 1 rfl) ?_
    refine lv_iload_n hx hb dX3_isOfKind_18 rfl (lv_at hl 3 rfl) ?_
    refine lv_icmp_ne (tgt := 24) hx hb dX3_isOfKind_19 (by decide) (fun c_24 => ?_) (fun c_24 => ?_)
    · skip
      refine va_getsN (C := "MistHeaps") (n := "KIND_ABOVE") (d := "[I") (v := .ref kA) hx hb hN_.2.1 hS hown (va_Nw.use rfl (hN_.1 (.fieldLinkNest RX3 24 "MistHeaps" "KIND_ABOVE" "[I" "MistHeaps") (by decide +kernel))) (fun _ h9 => h9) dX3_isOfKind_24 ?_
      refine lv_iload_n hx hb dX3_isOfKind_27 rfl (lv_at hl 1 rfl) ?_
      refine va_ti (v := .int 0) hx hb hN_.2.2 hS (vp_in_nI (n := 3) (N := 7) (by omega) (by omega)) rfl dX3_isOfKind_28 ?_
      refine lv_istore_n (lv' := [(2, .int 0), (3, .int 0), (0, .ref a0), (1, .int x)]) hx hb dX3_isOfKind_29 rfl hl (by decide) rfl (fun ls hl => ?_)
      refine lv_iinc (v := 1) (lv' := [(3, .int 1), (2, .int 0), (0, .ref a0), (1, .int x)]) hx hb dX3_isOfKind_30 hl (k := 1) rfl (by decide) (by decide) rfl (fun ls hl => ?_)
      refine lv_goto (tgt := 7) hx hb dX3_isOfKind_33 (by decide) ?_
      refine lv_iload_n hx hb dX3_isOfKind_7 rfl (lv_at hl 0 rfl) ?_
      refine lv_bipush (v := 7) hx hb dX3_isOfKind_8 (by decide) ?_
      refine lv_icmp_ge (tgt := 36) hx hb dX3_isOfKind_10 (by decide) (fun c_25 => absurd c_25 (by decide)) (fun _ => ?_)
      refine lv_iload_n hx hb dX3_isOfKind_13 rfl (lv_at hl 1 rfl) ?_
      refine lv_if_lt (tgt := 36) hx hb dX3_isOfKind_14 (by decide) (fun c_26 => absurd c_26 (by decide)) (fun _ => ?_)
      refine lv_iload_n hx hb dX3_isOfKind_17 rfl (lv_at hl 1 rfl) ?_
      refine lv_iload_n hx hb dX3_isOfKind_18 rfl (lv_at hl 3 rfl) ?_
      refine lv_icmp_ne (tgt := 24) hx hb dX3_isOfKind_19 (by decide) (fun c_27 => ?_) (fun c_27 => ?_)
      · skip
        refine va_getsN (C := "MistHeaps") (n := "KIND_ABOVE") (d := "[I") (v := .ref kA) hx hb hN_.2.1 hS hown (va_Nw.use rfl (hN_.1 (.fieldLinkNest RX3 24 "MistHeaps" "KIND_ABOVE" "[I" "MistHeaps") (by decide +kernel))) (fun _ h9 => h9) dX3_isOfKind_24 ?_
        refine lv_iload_n hx hb dX3_isOfKind_27 rfl (lv_at hl 1 rfl) ?_
        refine va_ti (v := .int (-1)) hx hb hN_.2.2 hS (vp_in_nI (n := 0) (N := 7) (by omega) (by omega)) rfl dX3_isOfKind_28 ?_
        refine lv_istore_n (lv' := [(2, .int (-1)), (3, .int 1), (0, .ref a0), (1, .int x)]) hx hb dX3_isOfKind_29 rfl hl (by decide) rfl (fun ls hl => ?_)
        refine lv_iinc (v := 2) (lv' := [(3, .int 2), (2, .int (-1)), (0, .ref a0), (1, .int x)]) hx hb dX3_isOfKind_30 hl (k := 1) rfl (by decide) (by decide) rfl (fun ls hl => ?_)
        refine lv_goto (tgt := 7) hx hb dX3_isOfKind_33 (by decide) ?_
        refine lv_iload_n hx hb dX3_isOfKind_7 rfl (lv_at hl 0 rfl) ?_
        refine lv_bipush (v := 7) hx hb dX3_isOfKind_8 (by decide) ?_
        refine lv_icmp_ge (tgt := 36) hx hb dX3_isOfKind_10 (by decide) (fun c_28 => absurd c_28 (by decide)) (fun _ => ?_)
        refine lv_iload_n hx hb dX3_isOfKind_13 rfl (lv_at hl 1 rfl) ?_
        refine lv_if_lt (tgt := 36) hx hb dX3_isOfKind_14 (by decide) (fun _ => ?_) (fun c_29 => absurd c_29 (by decide))
        refine lv_iconst (v := 0) hx hb dX3_isOfKind_36 (by decide) ?_
        rw [hQ]
        exact W.zret (v := 0) hx hb hr rfl (fun tQ htQ hWQ => ⟨0, rfl, Or.inr ⟨rfl, fun q => by rcases q with q9 | q9 | ⟨q9, q8⟩ | ⟨q9, q8⟩ | ⟨q9, q8⟩; exact c_27 q9.symm; exact c_24 q9.symm; exact absurd q8 (by decide); exact absurd q8 (by decide); exact absurd q8 (by decide)⟩, by rw [htQ]⟩) (fun q hq => absurd hq List.not_mem_nil) dX3_isOfKind_37
      · skip
        refine lv_iconst (v := 1) hx hb dX3_isOfKind_22 (by decide) ?_
        rw [hQ]
        exact W.zret (v := 1) hx hb hr rfl (fun tQ htQ hWQ => ⟨1, rfl, Or.inl ⟨rfl, by rw [← c_27]; decide⟩, by rw [htQ]⟩) (fun q hq => absurd hq List.not_mem_nil) dX3_isOfKind_23
    · skip
      refine lv_iconst (v := 1) hx hb dX3_isOfKind_22 (by decide) ?_
      rw [hQ]
      exact W.zret (v := 1) hx hb hr rfl (fun tQ htQ hWQ => ⟨1, rfl, Or.inl ⟨rfl, by rw [← c_24]; decide⟩, by rw [htQ]⟩) (fun q hq => absurd hq List.not_mem_nil) dX3_isOfKind_23
  · skip
    refine lv_aload_n hx hb dX3_isOfKind_0 rfl (lv_at hl 0 rfl) ?_
    refine va_get (D := (dC, dI)) (ci := 12) (v := .int 4) (C := RX10) (T := TX10) (N := 4) hx hb hts kc_isOfKind_X10_1 hown hZ.2.1 (hZ.P hS) 0 rfl rfl 0 (by decide) (hts (.fieldLink RX3 9 "MistHeaps$Heap" "kind" "I") kc_isOfKind_X10_0) (fun _ h9 => h9) rfl dX3_isOfKind_1 ?_
    refine lv_istore_n (lv' := [(2, .int 4), (0, .ref a0), (1, .int x)]) hx hb dX3_isOfKind_4 rfl hl (by decide) rfl (fun ls hl => ?_)
    refine lv_iconst (v := 0) hx hb dX3_isOfKind_5 (by decide) ?_
    refine lv_istore_n (lv' := [(3, .int 0), (2, .int 4), (0, .ref a0), (1, .int x)]) hx hb dX3_isOfKind_6 rfl hl (by decide) rfl (fun ls hl => ?_)
    refine lv_iload_n hx hb dX3_isOfKind_7 rfl (lv_at hl 0 rfl) ?_
    refine lv_bipush (v := 7) hx hb dX3_isOfKind_8 (by decide) ?_
    refine lv_icmp_ge (tgt := 36) hx hb dX3_isOfKind_10 (by decide) (fun c_30 => absurd c_30 (by decide)) (fun _ => ?_)
    refine lv_iload_n hx hb dX3_isOfKind_13 rfl (lv_at hl 1 rfl) ?_
    refine lv_if_lt (tgt := 36) hx hb dX3_isOfKind_14 (by decide) (fun c_31 => absurd c_31 (by decide)) (fun _ => ?_)
    refine lv_iload_n hx hb dX3_isOfKind_17 rfl (lv_at hl 1 rfl) ?_
    refine lv_iload_n hx hb dX3_isOfKind_18 rfl (lv_at hl 3 rfl) ?_
    refine lv_icmp_ne (tgt := 24) hx hb dX3_isOfKind_19 (by decide) (fun c_32 => ?_) (fun c_32 => ?_)
    · skip
      refine va_getsN (C := "MistHeaps") (n := "KIND_ABOVE") (d := "[I") (v := .ref kA) hx hb hN_.2.1 hS hown (va_Nw.use rfl (hN_.1 (.fieldLinkNest RX3 24 "MistHeaps" "KIND_ABOVE" "[I" "MistHeaps") (by decide +kernel))) (fun _ h9 => h9) dX3_isOfKind_24 ?_
      refine lv_iload_n hx hb dX3_isOfKind_27 rfl (lv_at hl 1 rfl) ?_
      refine va_ti (v := .int 1) hx hb hN_.2.2 hS (vp_in_nI (n := 4) (N := 7) (by omega) (by omega)) rfl dX3_isOfKind_28 ?_
      refine lv_istore_n (lv' := [(2, .int 1), (3, .int 0), (0, .ref a0), (1, .int x)]) hx hb dX3_isOfKind_29 rfl hl (by decide) rfl (fun ls hl => ?_)
      refine lv_iinc (v := 1) (lv' := [(3, .int 1), (2, .int 1), (0, .ref a0), (1, .int x)]) hx hb dX3_isOfKind_30 hl (k := 1) rfl (by decide) (by decide) rfl (fun ls hl => ?_)
      refine lv_goto (tgt := 7) hx hb dX3_isOfKind_33 (by decide) ?_
      refine lv_iload_n hx hb dX3_isOfKind_7 rfl (lv_at hl 0 rfl) ?_
      refine lv_bipush (v := 7) hx hb dX3_isOfKind_8 (by decide) ?_
      refine lv_icmp_ge (tgt := 36) hx hb dX3_isOfKind_10 (by decide) (fun c_33 => absurd c_33 (by decide)) (fun _ => ?_)
      refine lv_iload_n hx hb dX3_isOfKind_13 rfl (lv_at hl 1 rfl) ?_
      refine lv_if_lt (tgt := 36) hx hb dX3_isOfKind_14 (by decide) (fun c_34 => absurd c_34 (by decide)) (fun _ => ?_)
      refine lv_iload_n hx hb dX3_isOfKind_17 rfl (lv_at hl 1 rfl) ?_
      refine lv_iload_n hx hb dX3_isOfKind_18 rfl (lv_at hl 3 rfl) ?_
      refine lv_icmp_ne (tgt := 24) hx hb dX3_isOfKind_19 (by decide) (fun c_35 => ?_) (fun c_35 => ?_)
      · skip
        refine va_getsN (C := "MistHeaps") (n := "KIND_ABOVE") (d := "[I") (v := .ref kA) hx hb hN_.2.1 hS hown (va_Nw.use rfl (hN_.1 (.fieldLinkNest RX3 24 "MistHeaps" "KIND_ABOVE" "[I" "MistHeaps") (by decide +kernel))) (fun _ h9 => h9) dX3_isOfKind_24 ?_
        refine lv_iload_n hx hb dX3_isOfKind_27 rfl (lv_at hl 1 rfl) ?_
        refine va_ti (v := .int 0) hx hb hN_.2.2 hS (vp_in_nI (n := 1) (N := 7) (by omega) (by omega)) rfl dX3_isOfKind_28 ?_
        refine lv_istore_n (lv' := [(2, .int 0), (3, .int 1), (0, .ref a0), (1, .int x)]) hx hb dX3_isOfKind_29 rfl hl (by decide) rfl (fun ls hl => ?_)
        refine lv_iinc (v := 2) (lv' := [(3, .int 2), (2, .int 0), (0, .ref a0), (1, .int x)]) hx hb dX3_isOfKind_30 hl (k := 1) rfl (by decide) (by decide) rfl (fun ls hl => ?_)
        refine lv_goto (tgt := 7) hx hb dX3_isOfKind_33 (by decide) ?_
        refine lv_iload_n hx hb dX3_isOfKind_7 rfl (lv_at hl 0 rfl) ?_
        refine lv_bipush (v := 7) hx hb dX3_isOfKind_8 (by decide) ?_
        refine lv_icmp_ge (tgt := 36) hx hb dX3_isOfKind_10 (by decide) (fun c_36 => absurd c_36 (by decide)) (fun _ => ?_)
        refine lv_iload_n hx hb dX3_isOfKind_13 rfl (lv_at hl 1 rfl) ?_
        refine lv_if_lt (tgt := 36) hx hb dX3_isOfKind_14 (by decide) (fun c_37 => absurd c_37 (by decide)) (fun _ => ?_)
        refine lv_iload_n hx hb dX3_isOfKind_17 rfl (lv_at hl 1 rfl) ?_
        refine lv_iload_n hx hb dX3_isOfKind_18 rfl (lv_at hl 3 rfl) ?_
        refine lv_icmp_ne (tgt := 24) hx hb dX3_isOfKind_19 (by decide) (fun c_38 => ?_) (fun c_38 => ?_)
        · skip
          refine va_getsN (C := "MistHeaps") (n := "KIND_ABOVE") (d := "[I") (v := .ref kA) hx hb hN_.2.1 hS hown (va_Nw.use rfl (hN_.1 (.fieldLinkNest RX3 24 "MistHeaps" "KIND_ABOVE" "[I" "MistHeaps") (by decide +kernel))) (fun _ h9 => h9) dX3_isOfKind_24 ?_
          refine lv_iload_n hx hb dX3_isOfKind_27 rfl (lv_at hl 1 rfl) ?_
          refine va_ti (v := .int (-1)) hx hb hN_.2.2 hS (vp_in_nI (n := 0) (N := 7) (by omega) (by omega)) rfl dX3_isOfKind_28 ?_
          refine lv_istore_n (lv' := [(2, .int (-1)), (3, .int 2), (0, .ref a0), (1, .int x)]) hx hb dX3_isOfKind_29 rfl hl (by decide) rfl (fun ls hl => ?_)
          refine lv_iinc (v := 3) (lv' := [(3, .int 3), (2, .int (-1)), (0, .ref a0), (1, .int x)]) hx hb dX3_isOfKind_30 hl (k := 1) rfl (by decide) (by decide) rfl (fun ls hl => ?_)
          refine lv_goto (tgt := 7) hx hb dX3_isOfKind_33 (by decide) ?_
          refine lv_iload_n hx hb dX3_isOfKind_7 rfl (lv_at hl 0 rfl) ?_
          refine lv_bipush (v := 7) hx hb dX3_isOfKind_8 (by decide) ?_
          refine lv_icmp_ge (tgt := 36) hx hb dX3_isOfKind_10 (by decide) (fun c_39 => absurd c_39 (by decide)) (fun _ => ?_)
          refine lv_iload_n hx hb dX3_isOfKind_13 rfl (lv_at hl 1 rfl) ?_
          refine lv_if_lt (tgt := 36) hx hb dX3_isOfKind_14 (by decide) (fun _ => ?_) (fun c_40 => absurd c_40 (by decide))
          refine lv_iconst (v := 0) hx hb dX3_isOfKind_36 (by decide) ?_
          rw [hQ]
          exact W.zret (v := 0) hx hb hr rfl (fun tQ htQ hWQ => ⟨0, rfl, Or.inr ⟨rfl, fun q => by rcases q with q9 | q9 | ⟨q9, q8⟩ | ⟨q9, q8⟩ | ⟨q9, q8⟩; exact c_38 q9.symm; exact c_32 q9.symm; exact c_35 q9.symm; exact absurd q8 (by decide); exact absurd q8 (by decide)⟩, by rw [htQ]⟩) (fun q hq => absurd hq List.not_mem_nil) dX3_isOfKind_37
        · skip
          refine lv_iconst (v := 1) hx hb dX3_isOfKind_22 (by decide) ?_
          rw [hQ]
          exact W.zret (v := 1) hx hb hr rfl (fun tQ htQ hWQ => ⟨1, rfl, Or.inl ⟨rfl, by rw [← c_38]; decide⟩, by rw [htQ]⟩) (fun q hq => absurd hq List.not_mem_nil) dX3_isOfKind_23
      · skip
        refine lv_iconst (v := 1) hx hb dX3_isOfKind_22 (by decide) ?_
        rw [hQ]
        exact W.zret (v := 1) hx hb hr rfl (fun tQ htQ hWQ => ⟨1, rfl, Or.inl ⟨rfl, by rw [← c_35]; decide⟩, by rw [htQ]⟩) (fun q hq => absurd hq List.not_mem_nil) dX3_isOfKind_23
    · skip
      refine lv_iconst (v := 1) hx hb dX3_isOfKind_22 (by decide) ?_
      rw [hQ]
      exact W.zret (v := 1) hx hb hr rfl (fun tQ htQ hWQ => ⟨1, rfl, Or.inl ⟨rfl, by rw [← c_32]; decide⟩, by rw [htQ]⟩) (fun q hq => absurd hq List.not_mem_nil) dX3_isOfKind_23
  · skip
    refine lv_aload_n hx hb dX3_isOfKind_0 rfl (lv_at hl 0 rfl) ?_
    refine va_get (D := (dC, dI)) (ci := 12) (v := .int 5) (C := RX10) (T := TX10) (N := 4) hx hb hts kc_isOfKind_X10_1 hown hZ.2.1 (hZ.P hS) 0 rfl rfl 0 (by decide) (hts (.fieldLink RX3 9 "MistHeaps$Heap" "kind" "I") kc_isOfKind_X10_0) (fun _ h9 => h9) rfl dX3_isOfKind_1 ?_
    refine lv_istore_n (lv' := [(2, .int 5), (0, .ref a0), (1, .int x)]) hx hb dX3_isOfKind_4 rfl hl (by decide) rfl (fun ls hl => ?_)
    refine lv_iconst (v := 0) hx hb dX3_isOfKind_5 (by decide) ?_
    refine lv_istore_n (lv' := [(3, .int 0), (2, .int 5), (0, .ref a0), (1, .int x)]) hx hb dX3_isOfKind_6 rfl hl (by decide) rfl (fun ls hl => ?_)
    refine lv_iload_n hx hb dX3_isOfKind_7 rfl (lv_at hl 0 rfl) ?_
    refine lv_bipush (v := 7) hx hb dX3_isOfKind_8 (by decide) ?_
    refine lv_icmp_ge (tgt := 36) hx hb dX3_isOfKind_10 (by decide) (fun c_41 => absurd c_41 (by decide)) (fun _ => ?_)
    refine lv_iload_n hx hb dX3_isOfKind_13 rfl (lv_at hl 1 rfl) ?_
    refine lv_if_lt (tgt := 36) hx hb dX3_isOfKind_14 (by decide) (fun c_42 => absurd c_42 (by decide)) (fun _ => ?_)
    refine lv_iload_n hx hb dX3_isOfKind_17 rfl (lv_at hl 1 rfl) ?_
    refine lv_iload_n hx hb dX3_isOfKind_18 rfl (lv_at hl 3 rfl) ?_
    refine lv_icmp_ne (tgt := 24) hx hb dX3_isOfKind_19 (by decide) (fun c_43 => ?_) (fun c_43 => ?_)
    · skip
      refine va_getsN (C := "MistHeaps") (n := "KIND_ABOVE") (d := "[I") (v := .ref kA) hx hb hN_.2.1 hS hown (va_Nw.use rfl (hN_.1 (.fieldLinkNest RX3 24 "MistHeaps" "KIND_ABOVE" "[I" "MistHeaps") (by decide +kernel))) (fun _ h9 => h9) dX3_isOfKind_24 ?_
      refine lv_iload_n hx hb dX3_isOfKind_27 rfl (lv_at hl 1 rfl) ?_
      refine va_ti (v := .int 2) hx hb hN_.2.2 hS (vp_in_nI (n := 5) (N := 7) (by omega) (by omega)) rfl dX3_isOfKind_28 ?_
      refine lv_istore_n (lv' := [(2, .int 2), (3, .int 0), (0, .ref a0), (1, .int x)]) hx hb dX3_isOfKind_29 rfl hl (by decide) rfl (fun ls hl => ?_)
      refine lv_iinc (v := 1) (lv' := [(3, .int 1), (2, .int 2), (0, .ref a0), (1, .int x)]) hx hb dX3_isOfKind_30 hl (k := 1) rfl (by decide) (by decide) rfl (fun ls hl => ?_)
      refine lv_goto (tgt := 7) hx hb dX3_isOfKind_33 (by decide) ?_
      refine lv_iload_n hx hb dX3_isOfKind_7 rfl (lv_at hl 0 rfl) ?_
      refine lv_bipush (v := 7) hx hb dX3_isOfKind_8 (by decide) ?_
      refine lv_icmp_ge (tgt := 36) hx hb dX3_isOfKind_10 (by decide) (fun c_44 => absurd c_44 (by decide)) (fun _ => ?_)
      refine lv_iload_n hx hb dX3_isOfKind_13 rfl (lv_at hl 1 rfl) ?_
      refine lv_if_lt (tgt := 36) hx hb dX3_isOfKind_14 (by decide) (fun c_45 => absurd c_45 (by decide)) (fun _ => ?_)
      refine lv_iload_n hx hb dX3_isOfKind_17 rfl (lv_at hl 1 rfl) ?_
      refine lv_iload_n hx hb dX3_isOfKind_18 rfl (lv_at hl 3 rfl) ?_
      refine lv_icmp_ne (tgt := 24) hx hb dX3_isOfKind_19 (by decide) (fun c_46 => ?_) (fun c_46 => ?_)
      · skip
        refine va_getsN (C := "MistHeaps") (n := "KIND_ABOVE") (d := "[I") (v := .ref kA) hx hb hN_.2.1 hS hown (va_Nw.use rfl (hN_.1 (.fieldLinkNest RX3 24 "MistHeaps" "KIND_ABOVE" "[I" "MistHeaps") (by decide +kernel))) (fun _ h9 => h9) dX3_isOfKind_24 ?_
        refine lv_iload_n hx hb dX3_isOfKind_27 rfl (lv_at hl 1 rfl) ?_
        refine va_ti (v := .int 0) hx hb hN_.2.2 hS (vp_in_nI (n := 2) (N := 7) (by omega) (by omega)) rfl dX3_isOfKind_28 ?_
        refine lv_istore_n (lv' := [(2, .int 0), (3, .int 1), (0, .ref a0), (1, .int x)]) hx hb dX3_isOfKind_29 rfl hl (by decide) rfl (fun ls hl => ?_)
        refine lv_iinc (v := 2) (lv' := [(3, .int 2), (2, .int 0), (0, .ref a0), (1, .int x)]) hx hb dX3_isOfKind_30 hl (k := 1) rfl (by decide) (by decide) rfl (fun ls hl => ?_)
        refine lv_goto (tgt := 7) hx hb dX3_isOfKind_33 (by decide) ?_
        refine lv_iload_n hx hb dX3_isOfKind_7 rfl (lv_at hl 0 rfl) ?_
        refine lv_bipush (v := 7) hx hb dX3_isOfKind_8 (by decide) ?_
        refine lv_icmp_ge (tgt := 36) hx hb dX3_isOfKind_10 (by decide) (fun c_47 => absurd c_47 (by decide)) (fun _ => ?_)
        refine lv_iload_n hx hb dX3_isOfKind_13 rfl (lv_at hl 1 rfl) ?_
        refine lv_if_lt (tgt := 36) hx hb dX3_isOfKind_14 (by decide) (fun c_48 => absurd c_48 (by decide)) (fun _ => ?_)
        refine lv_iload_n hx hb dX3_isOfKind_17 rfl (lv_at hl 1 rfl) ?_
        refine lv_iload_n hx hb dX3_isOfKind_18 rfl (lv_at hl 3 rfl) ?_
        refine lv_icmp_ne (tgt := 24) hx hb dX3_isOfKind_19 (by decide) (fun c_49 => ?_) (fun c_49 => ?_)
        · skip
          refine va_getsN (C := "MistHeaps") (n := "KIND_ABOVE") (d := "[I") (v := .ref kA) hx hb hN_.2.1 hS hown (va_Nw.use rfl (hN_.1 (.fieldLinkNest RX3 24 "MistHeaps" "KIND_ABOVE" "[I" "MistHeaps") (by decide +kernel))) (fun _ h9 => h9) dX3_isOfKind_24 ?_
          refine lv_iload_n hx hb dX3_isOfKind_27 rfl (lv_at hl 1 rfl) ?_
          refine va_ti (v := .int (-1)) hx hb hN_.2.2 hS (vp_in_nI (n := 0) (N := 7) (by omega) (by omega)) rfl dX3_isOfKind_28 ?_
          refine lv_istore_n (lv' := [(2, .int (-1)), (3, .int 2), (0, .ref a0), (1, .int x)]) hx hb dX3_isOfKind_29 rfl hl (by decide) rfl (fun ls hl => ?_)
          refine lv_iinc (v := 3) (lv' := [(3, .int 3), (2, .int (-1)), (0, .ref a0), (1, .int x)]) hx hb dX3_isOfKind_30 hl (k := 1) rfl (by decide) (by decide) rfl (fun ls hl => ?_)
          refine lv_goto (tgt := 7) hx hb dX3_isOfKind_33 (by decide) ?_
          refine lv_iload_n hx hb dX3_isOfKind_7 rfl (lv_at hl 0 rfl) ?_
          refine lv_bipush (v := 7) hx hb dX3_isOfKind_8 (by decide) ?_
          refine lv_icmp_ge (tgt := 36) hx hb dX3_isOfKind_10 (by decide) (fun c_50 => absurd c_50 (by decide)) (fun _ => ?_)
          refine lv_iload_n hx hb dX3_isOfKind_13 rfl (lv_at hl 1 rfl) ?_
          refine lv_if_lt (tgt := 36) hx hb dX3_isOfKind_14 (by decide) (fun _ => ?_) (fun c_51 => absurd c_51 (by decide))
          refine lv_iconst (v := 0) hx hb dX3_isOfKind_36 (by decide) ?_
          rw [hQ]
          exact W.zret (v := 0) hx hb hr rfl (fun tQ htQ hWQ => ⟨0, rfl, Or.inr ⟨rfl, fun q => by rcases q with q9 | q9 | ⟨q9, q8⟩ | ⟨q9, q8⟩ | ⟨q9, q8⟩; exact c_49 q9.symm; exact c_43 q9.symm; exact absurd q8 (by decide); exact c_46 q9.symm; exact absurd q8 (by decide)⟩, by rw [htQ]⟩) (fun q hq => absurd hq List.not_mem_nil) dX3_isOfKind_37
        · skip
          refine lv_iconst (v := 1) hx hb dX3_isOfKind_22 (by decide) ?_
          rw [hQ]
          exact W.zret (v := 1) hx hb hr rfl (fun tQ htQ hWQ => ⟨1, rfl, Or.inl ⟨rfl, by rw [← c_49]; decide⟩, by rw [htQ]⟩) (fun q hq => absurd hq List.not_mem_nil) dX3_isOfKind_23
      · skip
        refine lv_iconst (v := 1) hx hb dX3_isOfKind_22 (by decide) ?_
        rw [hQ]
        exact W.zret (v := 1) hx hb hr rfl (fun tQ htQ hWQ => ⟨1, rfl, Or.inl ⟨rfl, by rw [← c_46]; decide⟩, by rw [htQ]⟩) (fun q hq => absurd hq List.not_mem_nil) dX3_isOfKind_23
    · skip
      refine lv_iconst (v := 1) hx hb dX3_isOfKind_22 (by decide) ?_
      rw [hQ]
      exact W.zret (v := 1) hx hb hr rfl (fun tQ htQ hWQ => ⟨1, rfl, Or.inl ⟨rfl, by rw [← c_43]; decide⟩, by rw [htQ]⟩) (fun q hq => absurd hq List.not_mem_nil) dX3_isOfKind_23
  · skip
    refine lv_aload_n hx hb dX3_isOfKind_0 rfl (lv_at hl 0 rfl) ?_
    refine va_get (D := (dC, dI)) (ci := 12) (v := .int 6) (C := RX10) (T := TX10) (N := 4) hx hb hts kc_isOfKind_X10_1 hown hZ.2.1 (hZ.P hS) 0 rfl rfl 0 (by decide) (hts (.fieldLink RX3 9 "MistHeaps$Heap" "kind" "I") kc_isOfKind_X10_0) (fun _ h9 => h9) rfl dX3_isOfKind_1 ?_
    refine lv_istore_n (lv' := [(2, .int 6), (0, .ref a0), (1, .int x)]) hx hb dX3_isOfKind_4 rfl hl (by decide) rfl (fun ls hl => ?_)
    refine lv_iconst (v := 0) hx hb dX3_isOfKind_5 (by decide) ?_
    refine lv_istore_n (lv' := [(3, .int 0), (2, .int 6), (0, .ref a0), (1, .int x)]) hx hb dX3_isOfKind_6 rfl hl (by decide) rfl (fun ls hl => ?_)
    refine lv_iload_n hx hb dX3_isOfKind_7 rfl (lv_at hl 0 rfl) ?_
    refine lv_bipush (v := 7) hx hb dX3_isOfKind_8 (by decide) ?_
    refine lv_icmp_ge (tgt := 36) hx hb dX3_isOfKind_10 (by decide) (fun c_52 => absurd c_52 (by decide)) (fun _ => ?_)
    refine lv_iload_n hx hb dX3_isOfKind_13 rfl (lv_at hl 1 rfl) ?_
    refine lv_if_lt (tgt := 36) hx hb dX3_isOfKind_14 (by decide) (fun c_53 => absurd c_53 (by decide)) (fun _ => ?_)
    refine lv_iload_n hx hb dX3_isOfKind_17 rfl (lv_at hl 1 rfl) ?_
    refine lv_iload_n hx hb dX3_isOfKind_18 rfl (lv_at hl 3 rfl) ?_
    refine lv_icmp_ne (tgt := 24) hx hb dX3_isOfKind_19 (by decide) (fun c_54 => ?_) (fun c_54 => ?_)
    · skip
      refine va_getsN (C := "MistHeaps") (n := "KIND_ABOVE") (d := "[I") (v := .ref kA) hx hb hN_.2.1 hS hown (va_Nw.use rfl (hN_.1 (.fieldLinkNest RX3 24 "MistHeaps" "KIND_ABOVE" "[I" "MistHeaps") (by decide +kernel))) (fun _ h9 => h9) dX3_isOfKind_24 ?_
      refine lv_iload_n hx hb dX3_isOfKind_27 rfl (lv_at hl 1 rfl) ?_
      refine va_ti (v := .int 3) hx hb hN_.2.2 hS (vp_in_nI (n := 6) (N := 7) (by omega) (by omega)) rfl dX3_isOfKind_28 ?_
      refine lv_istore_n (lv' := [(2, .int 3), (3, .int 0), (0, .ref a0), (1, .int x)]) hx hb dX3_isOfKind_29 rfl hl (by decide) rfl (fun ls hl => ?_)
      refine lv_iinc (v := 1) (lv' := [(3, .int 1), (2, .int 3), (0, .ref a0), (1, .int x)]) hx hb dX3_isOfKind_30 hl (k := 1) rfl (by decide) (by decide) rfl (fun ls hl => ?_)
      refine lv_goto (tgt := 7) hx hb dX3_isOfKind_33 (by decide) ?_
      refine lv_iload_n hx hb dX3_isOfKind_7 rfl (lv_at hl 0 rfl) ?_
      refine lv_bipush (v := 7) hx hb dX3_isOfKind_8 (by decide) ?_
      refine lv_icmp_ge (tgt := 36) hx hb dX3_isOfKind_10 (by decide) (fun c_55 => absurd c_55 (by decide)) (fun _ => ?_)
      refine lv_iload_n hx hb dX3_isOfKind_13 rfl (lv_at hl 1 rfl) ?_
      refine lv_if_lt (tgt := 36) hx hb dX3_isOfKind_14 (by decide) (fun c_56 => absurd c_56 (by decide)) (fun _ => ?_)
      refine lv_iload_n hx hb dX3_isOfKind_17 rfl (lv_at hl 1 rfl) ?_
      refine lv_iload_n hx hb dX3_isOfKind_18 rfl (lv_at hl 3 rfl) ?_
      refine lv_icmp_ne (tgt := 24) hx hb dX3_isOfKind_19 (by decide) (fun c_57 => ?_) (fun c_57 => ?_)
      · skip
        refine va_getsN (C := "MistHeaps") (n := "KIND_ABOVE") (d := "[I") (v := .ref kA) hx hb hN_.2.1 hS hown (va_Nw.use rfl (hN_.1 (.fieldLinkNest RX3 24 "MistHeaps" "KIND_ABOVE" "[I" "MistHeaps") (by decide +kernel))) (fun _ h9 => h9) dX3_isOfKind_24 ?_
        refine lv_iload_n hx hb dX3_isOfKind_27 rfl (lv_at hl 1 rfl) ?_
        refine va_ti (v := .int 0) hx hb hN_.2.2 hS (vp_in_nI (n := 3) (N := 7) (by omega) (by omega)) rfl dX3_isOfKind_28 ?_
        refine lv_istore_n (lv' := [(2, .int 0), (3, .int 1), (0, .ref a0), (1, .int x)]) hx hb dX3_isOfKind_29 rfl hl (by decide) rfl (fun ls hl => ?_)
        refine lv_iinc (v := 2) (lv' := [(3, .int 2), (2, .int 0), (0, .ref a0), (1, .int x)]) hx hb dX3_isOfKind_30 hl (k := 1) rfl (by decide) (by decide) rfl (fun ls hl => ?_)
        refine lv_goto (tgt := 7) hx hb dX3_isOfKind_33 (by decide) ?_
        refine lv_iload_n hx hb dX3_isOfKind_7 rfl (lv_at hl 0 rfl) ?_
        refine lv_bipush (v := 7) hx hb dX3_isOfKind_8 (by decide) ?_
        refine lv_icmp_ge (tgt := 36) hx hb dX3_isOfKind_10 (by decide) (fun c_58 => absurd c_58 (by decide)) (fun _ => ?_)
        refine lv_iload_n hx hb dX3_isOfKind_13 rfl (lv_at hl 1 rfl) ?_
        refine lv_if_lt (tgt := 36) hx hb dX3_isOfKind_14 (by decide) (fun c_59 => absurd c_59 (by decide)) (fun _ => ?_)
        refine lv_iload_n hx hb dX3_isOfKind_17 rfl (lv_at hl 1 rfl) ?_
        refine lv_iload_n hx hb dX3_isOfKind_18 rfl (lv_at hl 3 rfl) ?_
        refine lv_icmp_ne (tgt := 24) hx hb dX3_isOfKind_19 (by decide) (fun c_60 => ?_) (fun c_60 => ?_)
        · skip
          refine va_getsN (C := "MistHeaps") (n := "KIND_ABOVE") (d := "[I") (v := .ref kA) hx hb hN_.2.1 hS hown (va_Nw.use rfl (hN_.1 (.fieldLinkNest RX3 24 "MistHeaps" "KIND_ABOVE" "[I" "MistHeaps") (by decide +kernel))) (fun _ h9 => h9) dX3_isOfKind_24 ?_
          refine lv_iload_n hx hb dX3_isOfKind_27 rfl (lv_at hl 1 rfl) ?_
          refine va_ti (v := .int (-1)) hx hb hN_.2.2 hS (vp_in_nI (n := 0) (N := 7) (by omega) (by omega)) rfl dX3_isOfKind_28 ?_
          refine lv_istore_n (lv' := [(2, .int (-1)), (3, .int 2), (0, .ref a0), (1, .int x)]) hx hb dX3_isOfKind_29 rfl hl (by decide) rfl (fun ls hl => ?_)
          refine lv_iinc (v := 3) (lv' := [(3, .int 3), (2, .int (-1)), (0, .ref a0), (1, .int x)]) hx hb dX3_isOfKind_30 hl (k := 1) rfl (by decide) (by decide) rfl (fun ls hl => ?_)
          refine lv_goto (tgt := 7) hx hb dX3_isOfKind_33 (by decide) ?_
          refine lv_iload_n hx hb dX3_isOfKind_7 rfl (lv_at hl 0 rfl) ?_
          refine lv_bipush (v := 7) hx hb dX3_isOfKind_8 (by decide) ?_
          refine lv_icmp_ge (tgt := 36) hx hb dX3_isOfKind_10 (by decide) (fun c_61 => absurd c_61 (by decide)) (fun _ => ?_)
          refine lv_iload_n hx hb dX3_isOfKind_13 rfl (lv_at hl 1 rfl) ?_
          refine lv_if_lt (tgt := 36) hx hb dX3_isOfKind_14 (by decide) (fun _ => ?_) (fun c_62 => absurd c_62 (by decide))
          refine lv_iconst (v := 0) hx hb dX3_isOfKind_36 (by decide) ?_
          rw [hQ]
          exact W.zret (v := 0) hx hb hr rfl (fun tQ htQ hWQ => ⟨0, rfl, Or.inr ⟨rfl, fun q => by rcases q with q9 | q9 | ⟨q9, q8⟩ | ⟨q9, q8⟩ | ⟨q9, q8⟩; exact c_60 q9.symm; exact c_54 q9.symm; exact absurd q8 (by decide); exact absurd q8 (by decide); exact c_57 q9.symm⟩, by rw [htQ]⟩) (fun q hq => absurd hq List.not_mem_nil) dX3_isOfKind_37
        · skip
          refine lv_iconst (v := 1) hx hb dX3_isOfKind_22 (by decide) ?_
          rw [hQ]
          exact W.zret (v := 1) hx hb hr rfl (fun tQ htQ hWQ => ⟨1, rfl, Or.inl ⟨rfl, by rw [← c_60]; decide⟩, by rw [htQ]⟩) (fun q hq => absurd hq List.not_mem_nil) dX3_isOfKind_23
      · skip
        refine lv_iconst (v := 1) hx hb dX3_isOfKind_22 (by decide) ?_
        rw [hQ]
        exact W.zret (v := 1) hx hb hr rfl (fun tQ htQ hWQ => ⟨1, rfl, Or.inl ⟨rfl, by rw [← c_57]; decide⟩, by rw [htQ]⟩) (fun q hq => absurd hq List.not_mem_nil) dX3_isOfKind_23
    · skip
      refine lv_iconst (v := 1) hx hb dX3_isOfKind_22 (by decide) ?_
      rw [hQ]
      exact W.zret (v := 1) hx hb hr rfl (fun tQ htQ hWQ => ⟨1, rfl, Or.inl ⟨rfl, by rw [← c_54]; decide⟩, by rw [htQ]⟩) (fun q hq => absurd hq List.not_mem_nil) dX3_isOfKind_23

theorem kc_isOfKind_X9_0 : (.fieldLink RX3 9 "MistHeaps$Heap" "kind" "I" : Cond) ∈ wsX3_isOfKind := kc_of 228 rfl rfl rfl
theorem kc_isOfKind_X9_1 : ∀ w ∈ wsX90, w ∈ wsX3_isOfKind := fun w h => List.mem_cons_of_mem _ (gin_wsX90 w h)
set_option maxHeartbeats 4000000 in
set_option maxRecDepth 100000 in
theorem c_isOfKind_X9 (l : Launch) (dC : Nat → ClassId) (dI : Nat → Nat → Nat) (kA : Nat)  (i0 : Nat) (sk : Int32) (sv : Int32) (scl : Int32) (x : Int32) (a0 : Nat) (zk7 : ∃ k7 : Nat, k7 < 7 ∧ sk = nI k7) : Met l yX3_isOfKind wsX3_isOfKind ({ frames := 0, cells := 0, slots := 0, locals := 0 } : Room) (va_Pc [.ref a0, .int x] (fun U => Gn kA (fun _ => False) U ∧ Fz dC dI [(zo11iiii a0 sk (nI i0) sv scl)] [] (fun _ => False) U)) (vp_Si (fun r => (r = 1 ∧ isU sk x) ∨ (r = 0 ∧ ¬ isU sk x))) 0 0 (fun _ => False) := by
  refine met_ofQ (cc := cX3_isOfKind) (maxL := 4) (ret := (some .boolean)) (by decide) rfl ?_
  intro p e s m args below meth c s₁ Q B hml hv hQ
  obtain ⟨rfl, hN_, hZ⟩ := hv
  have hx := B.exec
  have hb := B.bytes
  have hr := B.returns
  have hts := atoms_spec (ws := wsX3_isOfKind) B.pre
  have hown : s.vm.findClass RX3 = some m.cls := findClass_of_methodNamed B.named
  have hlocks := B.notSynchronized
  obtain ⟨A, hAe⟩ : ∃ A : Nat → Prop, A = fun _ => False := ⟨_, rfl⟩
  rw [← hAe] at hQ hN_ hZ
  have hS : va_S A s.heap s.heap [] := va_S.rf
  have hl := lv_entry [.ref a0, .int x] (n := 4) (Nat.le_of_ble_eq_true rfl)
  rw [lg_entry_eq]
  generalize (lg_sl [.ref a0, .int x] ++ List.replicate (4 - (lg_sl [.ref a0, .int x]).length) Slot.unset).toArray = ls at hl ⊢
  generalize hag : ([.ref a0, .int x] : List Value).toArray = args at hts hQ ⊢
  have hl : lv_has ls 4 [(0, .ref a0), (1, .int x)] := hl
  rcases kd7 zk7 with rfl | rfl | rfl | rfl | rfl | rfl | rfl
  · skip
    refine lv_aload_n hx hb dX3_isOfKind_0 rfl (lv_at hl 0 rfl) ?_
    refine va_get (D := (dC, dI)) (ci := 11) (v := .int 0) (C := RX9) (T := TX9) (N := 4) hx hb hts kc_isOfKind_X9_1 hown hZ.2.1 (hZ.P hS) 0 rfl rfl 0 (by decide) (hts (.fieldLink RX3 9 "MistHeaps$Heap" "kind" "I") kc_isOfKind_X9_0) (fun _ h9 => h9) rfl dX3_isOfKind_1 ?_
    refine lv_istore_n (lv' := [(2, .int 0), (0, .ref a0), (1, .int x)]) hx hb dX3_isOfKind_4 rfl hl (by decide) rfl (fun ls hl => ?_)
    refine lv_iconst (v := 0) hx hb dX3_isOfKind_5 (by decide) ?_
    refine lv_istore_n (lv' := [(3, .int 0), (2, .int 0), (0, .ref a0), (1, .int x)]) hx hb dX3_isOfKind_6 rfl hl (by decide) rfl (fun ls hl => ?_)
    refine lv_iload_n hx hb dX3_isOfKind_7 rfl (lv_at hl 0 rfl) ?_
    refine lv_bipush (v := 7) hx hb dX3_isOfKind_8 (by decide) ?_
    refine lv_icmp_ge (tgt := 36) hx hb dX3_isOfKind_10 (by decide) (fun c_1 => absurd c_1 (by decide)) (fun _ => ?_)
    refine lv_iload_n hx hb dX3_isOfKind_13 rfl (lv_at hl 1 rfl) ?_
    refine lv_if_lt (tgt := 36) hx hb dX3_isOfKind_14 (by decide) (fun c_2 => absurd c_2 (by decide)) (fun _ => ?_)
    refine lv_iload_n hx hb dX3_isOfKind_17 rfl (lv_at hl 1 rfl) ?_
    refine lv_iload_n hx hb dX3_isOfKind_18 rfl (lv_at hl 3 rfl) ?_
    refine lv_icmp_ne (tgt := 24) hx hb dX3_isOfKind_19 (by decide) (fun c_3 => ?_) (fun c_3 => ?_)
    · skip
      refine va_getsN (C := "MistHeaps") (n := "KIND_ABOVE") (d := "[I") (v := .ref kA) hx hb hN_.2.1 hS hown (va_Nw.use rfl (hN_.1 (.fieldLinkNest RX3 24 "MistHeaps" "KIND_ABOVE" "[I" "MistHeaps") (by decide +kernel))) (fun _ h9 => h9) dX3_isOfKind_24 ?_
      refine lv_iload_n hx hb dX3_isOfKind_27 rfl (lv_at hl 1 rfl) ?_
      refine va_ti (v := .int (-1)) hx hb hN_.2.2 hS (vp_in_nI (n := 0) (N := 7) (by omega) (by omega)) rfl dX3_isOfKind_28 ?_
      refine lv_istore_n (lv' := [(2, .int (-1)), (3, .int 0), (0, .ref a0), (1, .int x)]) hx hb dX3_isOfKind_29 rfl hl (by decide) rfl (fun ls hl => ?_)
      refine lv_iinc (v := 1) (lv' := [(3, .int 1), (2, .int (-1)), (0, .ref a0), (1, .int x)]) hx hb dX3_isOfKind_30 hl (k := 1) rfl (by decide) (by decide) rfl (fun ls hl => ?_)
      refine lv_goto (tgt := 7) hx hb dX3_isOfKind_33 (by decide) ?_
      refine lv_iload_n hx hb dX3_isOfKind_7 rfl (lv_at hl 0 rfl) ?_
      refine lv_bipush (v := 7) hx hb dX3_isOfKind_8 (by decide) ?_
      refine lv_icmp_ge (tgt := 36) hx hb dX3_isOfKind_10 (by decide) (fun c_4 => absurd c_4 (by decide)) (fun _ => ?_)
      refine lv_iload_n hx hb dX3_isOfKind_13 rfl (lv_at hl 1 rfl) ?_
      refine lv_if_lt (tgt := 36) hx hb dX3_isOfKind_14 (by decide) (fun _ => ?_) (fun c_5 => absurd c_5 (by decide))
      refine lv_iconst (v := 0) hx hb dX3_isOfKind_36 (by decide) ?_
      rw [hQ]
      exact W.zret (v := 0) hx hb hr rfl (fun tQ htQ hWQ => ⟨0, rfl, Or.inr ⟨rfl, fun q => by rcases q with q9 | q9 | ⟨q9, q8⟩ | ⟨q9, q8⟩ | ⟨q9, q8⟩; exact c_3 q9.symm; exact c_3 q9.symm; exact absurd q8 (by decide); exact absurd q8 (by decide); exact absurd q8 (by decide)⟩, by rw [htQ]⟩) (fun q hq => absurd hq List.not_mem_nil) dX3_isOfKind_37
    · skip
      refine lv_iconst (v := 1) hx hb dX3_isOfKind_22 (by decide) ?_
      rw [hQ]
      exact W.zret (v := 1) hx hb hr rfl (fun tQ htQ hWQ => ⟨1, rfl, Or.inl ⟨rfl, by rw [← c_3]; decide⟩, by rw [htQ]⟩) (fun q hq => absurd hq List.not_mem_nil) dX3_isOfKind_23
  · skip
    refine lv_aload_n hx hb dX3_isOfKind_0 rfl (lv_at hl 0 rfl) ?_
    refine va_get (D := (dC, dI)) (ci := 11) (v := .int 1) (C := RX9) (T := TX9) (N := 4) hx hb hts kc_isOfKind_X9_1 hown hZ.2.1 (hZ.P hS) 0 rfl rfl 0 (by decide) (hts (.fieldLink RX3 9 "MistHeaps$Heap" "kind" "I") kc_isOfKind_X9_0) (fun _ h9 => h9) rfl dX3_isOfKind_1 ?_
    refine lv_istore_n (lv' := [(2, .int 1), (0, .ref a0), (1, .int x)]) hx hb dX3_isOfKind_4 rfl hl (by decide) rfl (fun ls hl => ?_)
    refine lv_iconst (v := 0) hx hb dX3_isOfKind_5 (by decide) ?_
    refine lv_istore_n (lv' := [(3, .int 0), (2, .int 1), (0, .ref a0), (1, .int x)]) hx hb dX3_isOfKind_6 rfl hl (by decide) rfl (fun ls hl => ?_)
    refine lv_iload_n hx hb dX3_isOfKind_7 rfl (lv_at hl 0 rfl) ?_
    refine lv_bipush (v := 7) hx hb dX3_isOfKind_8 (by decide) ?_
    refine lv_icmp_ge (tgt := 36) hx hb dX3_isOfKind_10 (by decide) (fun c_6 => absurd c_6 (by decide)) (fun _ => ?_)
    refine lv_iload_n hx hb dX3_isOfKind_13 rfl (lv_at hl 1 rfl) ?_
    refine lv_if_lt (tgt := 36) hx hb dX3_isOfKind_14 (by decide) (fun c_7 => absurd c_7 (by decide)) (fun _ => ?_)
    refine lv_iload_n hx hb dX3_isOfKind_17 rfl (lv_at hl 1 rfl) ?_
    refine lv_iload_n hx hb dX3_isOfKind_18 rfl (lv_at hl 3 rfl) ?_
    refine lv_icmp_ne (tgt := 24) hx hb dX3_isOfKind_19 (by decide) (fun c_8 => ?_) (fun c_8 => ?_)
    · skip
      refine va_getsN (C := "MistHeaps") (n := "KIND_ABOVE") (d := "[I") (v := .ref kA) hx hb hN_.2.1 hS hown (va_Nw.use rfl (hN_.1 (.fieldLinkNest RX3 24 "MistHeaps" "KIND_ABOVE" "[I" "MistHeaps") (by decide +kernel))) (fun _ h9 => h9) dX3_isOfKind_24 ?_
      refine lv_iload_n hx hb dX3_isOfKind_27 rfl (lv_at hl 1 rfl) ?_
      refine va_ti (v := .int 0) hx hb hN_.2.2 hS (vp_in_nI (n := 1) (N := 7) (by omega) (by omega)) rfl dX3_isOfKind_28 ?_
      refine lv_istore_n (lv' := [(2, .int 0), (3, .int 0), (0, .ref a0), (1, .int x)]) hx hb dX3_isOfKind_29 rfl hl (by decide) rfl (fun ls hl => ?_)
      refine lv_iinc (v := 1) (lv' := [(3, .int 1), (2, .int 0), (0, .ref a0), (1, .int x)]) hx hb dX3_isOfKind_30 hl (k := 1) rfl (by decide) (by decide) rfl (fun ls hl => ?_)
      refine lv_goto (tgt := 7) hx hb dX3_isOfKind_33 (by decide) ?_
      refine lv_iload_n hx hb dX3_isOfKind_7 rfl (lv_at hl 0 rfl) ?_
      refine lv_bipush (v := 7) hx hb dX3_isOfKind_8 (by decide) ?_
      refine lv_icmp_ge (tgt := 36) hx hb dX3_isOfKind_10 (by decide) (fun c_9 => absurd c_9 (by decide)) (fun _ => ?_)
      refine lv_iload_n hx hb dX3_isOfKind_13 rfl (lv_at hl 1 rfl) ?_
      refine lv_if_lt (tgt := 36) hx hb dX3_isOfKind_14 (by decide) (fun c_10 => absurd c_10 (by decide)) (fun _ => ?_)
      refine lv_iload_n hx hb dX3_isOfKind_17 rfl (lv_at hl 1 rfl) ?_
      refine lv_iload_n hx hb dX3_isOfKind_18 rfl (lv_at hl 3 rfl) ?_
      refine lv_icmp_ne (tgt := 24) hx hb dX3_isOfKind_19 (by decide) (fun c_11 => ?_) (fun c_11 => ?_)
      · skip
        refine va_getsN (C := "MistHeaps") (n := "KIND_ABOVE") (d := "[I") (v := .ref kA) hx hb hN_.2.1 hS hown (va_Nw.use rfl (hN_.1 (.fieldLinkNest RX3 24 "MistHeaps" "KIND_ABOVE" "[I" "MistHeaps") (by decide +kernel))) (fun _ h9 => h9) dX3_isOfKind_24 ?_
        refine lv_iload_n hx hb dX3_isOfKind_27 rfl (lv_at hl 1 rfl) ?_
        refine va_ti (v := .int (-1)) hx hb hN_.2.2 hS (vp_in_nI (n := 0) (N := 7) (by omega) (by omega)) rfl dX3_isOfKind_28 ?_
        refine lv_istore_n (lv' := [(2, .int (-1)), (3, .int 1), (0, .ref a0), (1, .int x)]) hx hb dX3_isOfKind_29 rfl hl (by decide) rfl (fun ls hl => ?_)
        refine lv_iinc (v := 2) (lv' := [(3, .int 2), (2, .int (-1)), (0, .ref a0), (1, .int x)]) hx hb dX3_isOfKind_30 hl (k := 1) rfl (by decide) (by decide) rfl (fun ls hl => ?_)
        refine lv_goto (tgt := 7) hx hb dX3_isOfKind_33 (by decide) ?_
        refine lv_iload_n hx hb dX3_isOfKind_7 rfl (lv_at hl 0 rfl) ?_
        refine lv_bipush (v := 7) hx hb dX3_isOfKind_8 (by decide) ?_
        refine lv_icmp_ge (tgt := 36) hx hb dX3_isOfKind_10 (by decide) (fun c_12 => absurd c_12 (by decide)) (fun _ => ?_)
        refine lv_iload_n hx hb dX3_isOfKind_13 rfl (lv_at hl 1 rfl) ?_
        refine lv_if_lt (tgt := 36) hx hb dX3_isOfKind_14 (by decide) (fun _ => ?_) (fun c_13 => absurd c_13 (by decide))
        refine lv_iconst (v := 0) hx hb dX3_isOfKind_36 (by decide) ?_
        rw [hQ]
        exact W.zret (v := 0) hx hb hr rfl (fun tQ htQ hWQ => ⟨0, rfl, Or.inr ⟨rfl, fun q => by rcases q with q9 | q9 | ⟨q9, q8⟩ | ⟨q9, q8⟩ | ⟨q9, q8⟩; exact c_11 q9.symm; exact c_8 q9.symm; exact absurd q8 (by decide); exact absurd q8 (by decide); exact absurd q8 (by decide)⟩, by rw [htQ]⟩) (fun q hq => absurd hq List.not_mem_nil) dX3_isOfKind_37
      · skip
        refine lv_iconst (v := 1) hx hb dX3_isOfKind_22 (by decide) ?_
        rw [hQ]
        exact W.zret (v := 1) hx hb hr rfl (fun tQ htQ hWQ => ⟨1, rfl, Or.inl ⟨rfl, by rw [← c_11]; decide⟩, by rw [htQ]⟩) (fun q hq => absurd hq List.not_mem_nil) dX3_isOfKind_23
    · skip
      refine lv_iconst (v := 1) hx hb dX3_isOfKind_22 (by decide) ?_
      rw [hQ]
      exact W.zret (v := 1) hx hb hr rfl (fun tQ htQ hWQ => ⟨1, rfl, Or.inl ⟨rfl, by rw [← c_8]; decide⟩, by rw [htQ]⟩) (fun q hq => absurd hq List.not_mem_nil) dX3_isOfKind_23
  · skip
    refine lv_aload_n hx hb dX3_isOfKind_0 rfl (lv_at hl 0 rfl) ?_
    refine va_get (D := (dC, dI)) (ci := 11) (v := .int 2) (C := RX9) (T := TX9) (N := 4) hx hb hts kc_isOfKind_X9_1 hown hZ.2.1 (hZ.P hS) 0 rfl rfl 0 (by decide) (hts (.fieldLink RX3 9 "MistHeaps$Heap" "kind" "I") kc_isOfKind_X9_0) (fun _ h9 => h9) rfl dX3_isOfKind_1 ?_
    refine lv_istore_n (lv' := [(2, .int 2), (0, .ref a0), (1, .int x)]) hx hb dX3_isOfKind_4 rfl hl (by decide) rfl (fun ls hl => ?_)
    refine lv_iconst (v := 0) hx hb dX3_isOfKind_5 (by decide) ?_
    refine lv_istore_n (lv' := [(3, .int 0), (2, .int 2), (0, .ref a0), (1, .int x)]) hx hb dX3_isOfKind_6 rfl hl (by decide) rfl (fun ls hl => ?_)
    refine lv_iload_n hx hb dX3_isOfKind_7 rfl (lv_at hl 0 rfl) ?_
    refine lv_bipush (v := 7) hx hb dX3_isOfKind_8 (by decide) ?_
    refine lv_icmp_ge (tgt := 36) hx hb dX3_isOfKind_10 (by decide) (fun c_14 => absurd c_14 (by decide)) (fun _ => ?_)
    refine lv_iload_n hx hb dX3_isOfKind_13 rfl (lv_at hl 1 rfl) ?_
    refine lv_if_lt (tgt := 36) hx hb dX3_isOfKind_14 (by decide) (fun c_15 => absurd c_15 (by decide)) (fun _ => ?_)
    refine lv_iload_n hx hb dX3_isOfKind_17 rfl (lv_at hl 1 rfl) ?_
    refine lv_iload_n hx hb dX3_isOfKind_18 rfl (lv_at hl 3 rfl) ?_
    refine lv_icmp_ne (tgt := 24) hx hb dX3_isOfKind_19 (by decide) (fun c_16 => ?_) (fun c_16 => ?_)
    · skip
      refine va_getsN (C := "MistHeaps") (n := "KIND_ABOVE") (d := "[I") (v := .ref kA) hx hb hN_.2.1 hS hown (va_Nw.use rfl (hN_.1 (.fieldLinkNest RX3 24 "MistHeaps" "KIND_ABOVE" "[I" "MistHeaps") (by decide +kernel))) (fun _ h9 => h9) dX3_isOfKind_24 ?_
      refine lv_iload_n hx hb dX3_isOfKind_27 rfl (lv_at hl 1 rfl) ?_
      refine va_ti (v := .int 0) hx hb hN_.2.2 hS (vp_in_nI (n := 2) (N := 7) (by omega) (by omega)) rfl dX3_isOfKind_28 ?_
      refine lv_istore_n (lv' := [(2, .int 0), (3, .int 0), (0, .ref a0), (1, .int x)]) hx hb dX3_isOfKind_29 rfl hl (by decide) rfl (fun ls hl => ?_)
      refine lv_iinc (v := 1) (lv' := [(3, .int 1), (2, .int 0), (0, .ref a0), (1, .int x)]) hx hb dX3_isOfKind_30 hl (k := 1) rfl (by decide) (by decide) rfl (fun ls hl => ?_)
      refine lv_goto (tgt := 7) hx hb dX3_isOfKind_33 (by decide) ?_
      refine lv_iload_n hx hb dX3_isOfKind_7 rfl (lv_at hl 0 rfl) ?_
      refine lv_bipush (v := 7) hx hb dX3_isOfKind_8 (by decide) ?_
      refine lv_icmp_ge (tgt := 36) hx hb dX3_isOfKind_10 (by decide) (fun c_17 => absurd c_17 (by decide)) (fun _ => ?_)
      refine lv_iload_n hx hb dX3_isOfKind_13 rfl (lv_at hl 1 rfl) ?_
      refine lv_if_lt (tgt := 36) hx hb dX3_isOfKind_14 (by decide) (fun c_18 => absurd c_18 (by decide)) (fun _ => ?_)
      refine lv_iload_n hx hb dX3_isOfKind_17 rfl (lv_at hl 1 rfl) ?_
      refine lv_iload_n hx hb dX3_isOfKind_18 rfl (lv_at hl 3 rfl) ?_
      refine lv_icmp_ne (tgt := 24) hx hb dX3_isOfKind_19 (by decide) (fun c_19 => ?_) (fun c_19 => ?_)
      · skip
        refine va_getsN (C := "MistHeaps") (n := "KIND_ABOVE") (d := "[I") (v := .ref kA) hx hb hN_.2.1 hS hown (va_Nw.use rfl (hN_.1 (.fieldLinkNest RX3 24 "MistHeaps" "KIND_ABOVE" "[I" "MistHeaps") (by decide +kernel))) (fun _ h9 => h9) dX3_isOfKind_24 ?_
        refine lv_iload_n hx hb dX3_isOfKind_27 rfl (lv_at hl 1 rfl) ?_
        refine va_ti (v := .int (-1)) hx hb hN_.2.2 hS (vp_in_nI (n := 0) (N := 7) (by omega) (by omega)) rfl dX3_isOfKind_28 ?_
        refine lv_istore_n (lv' := [(2, .int (-1)), (3, .int 1), (0, .ref a0), (1, .int x)]) hx hb dX3_isOfKind_29 rfl hl (by decide) rfl (fun ls hl => ?_)
        refine lv_iinc (v := 2) (lv' := [(3, .int 2), (2, .int (-1)), (0, .ref a0), (1, .int x)]) hx hb dX3_isOfKind_30 hl (k := 1) rfl (by decide) (by decide) rfl (fun ls hl => ?_)
        refine lv_goto (tgt := 7) hx hb dX3_isOfKind_33 (by decide) ?_
        refine lv_iload_n hx hb dX3_isOfKind_7 rfl (lv_at hl 0 rfl) ?_
        refine lv_bipush (v := 7) hx hb dX3_isOfKind_8 (by decide) ?_
        refine lv_icmp_ge (tgt := 36) hx hb dX3_isOfKind_10 (by decide) (fun c_20 => absurd c_20 (by decide)) (fun _ => ?_)
        refine lv_iload_n hx hb dX3_isOfKind_13 rfl (lv_at hl 1 rfl) ?_
        refine lv_if_lt (tgt := 36) hx hb dX3_isOfKind_14 (by decide) (fun _ => ?_) (fun c_21 => absurd c_21 (by decide))
        refine lv_iconst (v := 0) hx hb dX3_isOfKind_36 (by decide) ?_
        rw [hQ]
        exact W.zret (v := 0) hx hb hr rfl (fun tQ htQ hWQ => ⟨0, rfl, Or.inr ⟨rfl, fun q => by rcases q with q9 | q9 | ⟨q9, q8⟩ | ⟨q9, q8⟩ | ⟨q9, q8⟩; exact c_19 q9.symm; exact c_16 q9.symm; exact absurd q8 (by decide); exact absurd q8 (by decide); exact absurd q8 (by decide)⟩, by rw [htQ]⟩) (fun q hq => absurd hq List.not_mem_nil) dX3_isOfKind_37
      · skip
        refine lv_iconst (v := 1) hx hb dX3_isOfKind_22 (by decide) ?_
        rw [hQ]
        exact W.zret (v := 1) hx hb hr rfl (fun tQ htQ hWQ => ⟨1, rfl, Or.inl ⟨rfl, by rw [← c_19]; decide⟩, by rw [htQ]⟩) (fun q hq => absurd hq List.not_mem_nil) dX3_isOfKind_23
    · skip
      refine lv_iconst (v := 1) hx hb dX3_isOfKind_22 (by decide) ?_
      rw [hQ]
      exact W.zret (v := 1) hx hb hr rfl (fun tQ htQ hWQ => ⟨1, rfl, Or.inl ⟨rfl, by rw [← c_16]; decide⟩, by rw [htQ]⟩) (fun q hq => absurd hq List.not_mem_nil) dX3_isOfKind_23
  · skip
    refine lv_aload_n hx hb dX3_isOfKind_0 rfl (lv_at hl 0 rfl) ?_
    refine va_get (D := (dC, dI)) (ci := 11) (v := .int 3) (C := RX9) (T := TX9) (N := 4) hx hb hts kc_isOfKind_X9_1 hown hZ.2.1 (hZ.P hS) 0 rfl rfl 0 (by decide) (hts (.fieldLink RX3 9 "MistHeaps$Heap" "kind" "I") kc_isOfKind_X9_0) (fun _ h9 => h9) rfl dX3_isOfKind_1 ?_
    refine lv_istore_n (lv' := [(2, .int 3), (0, .ref a0), (1, .int x)]) hx hb dX3_isOfKind_4 rfl hl (by decide) rfl (fun ls hl => ?_)
    refine lv_iconst (v := 0) hx hb dX3_isOfKind_5 (by decide) ?_
    refine lv_istore_n (lv' := [(3, .int 0), (2, .int 3), (0, .ref a0), (1, .int x)]) hx hb dX3_isOfKind_6 rfl hl (by decide) rfl (fun ls hl => ?_)
    refine lv_iload_n hx hb dX3_isOfKind_7 rfl (lv_at hl 0 rfl) ?_
    refine lv_bipush (v := 7) hx hb dX3_isOfKind_8 (by decide) ?_
    refine lv_icmp_ge (tgt := 36) hx hb dX3_isOfKind_10 (by decide) (fun c_22 => absurd c_22 (by decide)) (fun _ => ?_)
    refine lv_iload_n hx hb dX3_isOfKind_13 rfl (lv_at hl 1 rfl) ?_
    refine lv_if_lt (tgt := 36) hx hb dX3_isOfKind_14 (by decide) (fun c_23 => absurd c_23 (by decide)) (fun _ => ?_)
    refine lv_iload_n hx hb dX3_isOfKind_17 rfl (lv_at hl 1 rfl) ?_
    refine lv_iload_n hx hb dX3_isOfKind_18 rfl (lv_at hl 3 rfl) ?_
    refine lv_icmp_ne (tgt := 24) hx hb dX3_isOfKind_19 (by decide) (fun c_24 => ?_) (fun c_24 => ?_)
    · skip
      refine va_getsN (C := "MistHeaps") (n := "KIND_ABOVE") (d := "[I") (v := .ref kA) hx hb hN_.2.1 hS hown (va_Nw.use rfl (hN_.1 (.fieldLinkNest RX3 24 "MistHeaps" "KIND_ABOVE" "[I" "MistHeaps") (by decide +kernel))) (fun _ h9 => h9) dX3_isOfKind_24 ?_
      refine lv_iload_n hx hb dX3_isOfKind_27 rfl (lv_at hl 1 rfl) ?_
      refine va_ti (v := .int 0) hx hb hN_.2.2 hS (vp_in_nI (n := 3) (N := 7) (by omega) (by omega)) rfl dX3_isOfKind_28 ?_
      refine lv_istore_n (lv' := [(2, .int 0), (3, .int 0), (0, .ref a0), (1, .int x)]) hx hb dX3_isOfKind_29 rfl hl (by decide) rfl (fun ls hl => ?_)
      refine lv_iinc (v := 1) (lv' := [(3, .int 1), (2, .int 0), (0, .ref a0), (1, .int x)]) hx hb dX3_isOfKind_30 hl (k := 1) rfl (by decide) (by decide) rfl (fun ls hl => ?_)
      refine lv_goto (tgt := 7) hx hb dX3_isOfKind_33 (by decide) ?_
      refine lv_iload_n hx hb dX3_isOfKind_7 rfl (lv_at hl 0 rfl) ?_
      refine lv_bipush (v := 7) hx hb dX3_isOfKind_8 (by decide) ?_
      refine lv_icmp_ge (tgt := 36) hx hb dX3_isOfKind_10 (by decide) (fun c_25 => absurd c_25 (by decide)) (fun _ => ?_)
      refine lv_iload_n hx hb dX3_isOfKind_13 rfl (lv_at hl 1 rfl) ?_
      refine lv_if_lt (tgt := 36) hx hb dX3_isOfKind_14 (by decide) (fun c_26 => absurd c_26 (by decide)) (fun _ => ?_)
      refine lv_iload_n hx hb dX3_isOfKind_17 rfl (lv_at hl 1 rfl) ?_
      refine lv_iload_n hx hb dX3_isOfKind_18 rfl (lv_at hl 3 rfl) ?_
      refine lv_icmp_ne (tgt := 24) hx hb dX3_isOfKind_19 (by decide) (fun c_27 => ?_) (fun c_27 => ?_)
      · skip
        refine va_getsN (C := "MistHeaps") (n := "KIND_ABOVE") (d := "[I") (v := .ref kA) hx hb hN_.2.1 hS hown (va_Nw.use rfl (hN_.1 (.fieldLinkNest RX3 24 "MistHeaps" "KIND_ABOVE" "[I" "MistHeaps") (by decide +kernel))) (fun _ h9 => h9) dX3_isOfKind_24 ?_
        refine lv_iload_n hx hb dX3_isOfKind_27 rfl (lv_at hl 1 rfl) ?_
        refine va_ti (v := .int (-1)) hx hb hN_.2.2 hS (vp_in_nI (n := 0) (N := 7) (by omega) (by omega)) rfl dX3_isOfKind_28 ?_
        refine lv_istore_n (lv' := [(2, .int (-1)), (3, .int 1), (0, .ref a0), (1, .int x)]) hx hb dX3_isOfKind_29 rfl hl (by decide) rfl (fun ls hl => ?_)
        refine lv_iinc (v := 2) (lv' := [(3, .int 2), (2, .int (-1)), (0, .ref a0), (1, .int x)]) hx hb dX3_isOfKind_30 hl (k := 1) rfl (by decide) (by decide) rfl (fun ls hl => ?_)
        refine lv_goto (tgt := 7) hx hb dX3_isOfKind_33 (by decide) ?_
        refine lv_iload_n hx hb dX3_isOfKind_7 rfl (lv_at hl 0 rfl) ?_
        refine lv_bipush (v := 7) hx hb dX3_isOfKind_8 (by decide) ?_
        refine lv_icmp_ge (tgt := 36) hx hb dX3_isOfKind_10 (by decide) (fun c_28 => absurd c_28 (by decide)) (fun _ => ?_)
        refine lv_iload_n hx hb dX3_isOfKind_13 rfl (lv_at hl 1 rfl) ?_
        refine lv_if_lt (tgt := 36) hx hb dX3_isOfKind_14 (by decide) (fun _ => ?_) (fun c_29 => absurd c_29 (by decide))
        refine lv_iconst (v := 0) hx hb dX3_isOfKind_36 (by decide) ?_
        rw [hQ]
        exact W.zret (v := 0) hx hb hr rfl (fun tQ htQ hWQ => ⟨0, rfl, Or.inr ⟨rfl, fun q => by rcases q with q9 | q9 | ⟨q9, q8⟩ | ⟨q9, q8⟩ | ⟨q9, q8⟩; exact c_27 q9.symm; exact c_24 q9.symm; exact absurd q8 (by decide); exact absurd q8 (by decide); exact absurd q8 (by decide)⟩, by rw [htQ]⟩) (fun q hq => absurd hq List.not_mem_nil) dX3_isOfKind_37
      · skip
        refine lv_iconst (v := 1) hx hb dX3_isOfKind_22 (by decide) ?_
        rw [hQ]
        exact W.zret (v := 1) hx hb hr rfl (fun tQ htQ hWQ => ⟨1, rfl, Or.inl ⟨rfl, by rw [← c_27]; decide⟩, by rw [htQ]⟩) (fun q hq => absurd hq List.not_mem_nil) dX3_isOfKind_23
    · skip
      refine lv_iconst (v := 1) hx hb dX3_isOfKind_22 (by decide) ?_
      rw [hQ]
      exact W.zret (v := 1) hx hb hr rfl (fun tQ htQ hWQ => ⟨1, rfl, Or.inl ⟨rfl, by rw [← c_24]; decide⟩, by rw [htQ]⟩) (fun q hq => absurd hq List.not_mem_nil) dX3_isOfKind_23
  · skip
    refine lv_aload_n hx hb dX3_isOfKind_0 rfl (lv_at hl 0 rfl) ?_
    refine va_get (D := (dC, dI)) (ci := 11) (v := .int 4) (C := RX9) (T := TX9) (N := 4) hx hb hts kc_isOfKind_X9_1 hown hZ.2.1 (hZ.P hS) 0 rfl rfl 0 (by decide) (hts (.fieldLink RX3 9 "MistHeaps$Heap" "kind" "I") kc_isOfKind_X9_0) (fun _ h9 => h9) rfl dX3_isOfKind_1 ?_
    refine lv_istore_n (lv' := [(2, .int 4), (0, .ref a0), (1, .int x)]) hx hb dX3_isOfKind_4 rfl hl (by decide) rfl (fun ls hl => ?_)
    refine lv_iconst (v := 0) hx hb dX3_isOfKind_5 (by decide) ?_
    refine lv_istore_n (lv' := [(3, .int 0), (2, .int 4), (0, .ref a0), (1, .int x)]) hx hb dX3_isOfKind_6 rfl hl (by decide) rfl (fun ls hl => ?_)
    refine lv_iload_n hx hb dX3_isOfKind_7 rfl (lv_at hl 0 rfl) ?_
    refine lv_bipush (v := 7) hx hb dX3_isOfKind_8 (by decide) ?_
    refine lv_icmp_ge (tgt := 36) hx hb dX3_isOfKind_10 (by decide) (fun c_30 => absurd c_30 (by decide)) (fun _ => ?_)
    refine lv_iload_n hx hb dX3_isOfKind_13 rfl (lv_at hl 1 rfl) ?_
    refine lv_if_lt (tgt := 36) hx hb dX3_isOfKind_14 (by decide) (fun c_31 => absurd c_31 (by decide)) (fun _ => ?_)
    refine lv_iload_n hx hb dX3_isOfKind_17 rfl (lv_at hl 1 rfl) ?_
    refine lv_iload_n hx hb dX3_isOfKind_18 rfl (lv_at hl 3 rfl) ?_
    refine lv_icmp_ne (tgt := 24) hx hb dX3_isOfKind_19 (by decide) (fun c_32 => ?_) (fun c_32 => ?_)
    · skip
      refine va_getsN (C := "MistHeaps") (n := "KIND_ABOVE") (d := "[I") (v := .ref kA) hx hb hN_.2.1 hS hown (va_Nw.use rfl (hN_.1 (.fieldLinkNest RX3 24 "MistHeaps" "KIND_ABOVE" "[I" "MistHeaps") (by decide +kernel))) (fun _ h9 => h9) dX3_isOfKind_24 ?_
      refine lv_iload_n hx hb dX3_isOfKind_27 rfl (lv_at hl 1 rfl) ?_
      refine va_ti (v := .int 1) hx hb hN_.2.2 hS (vp_in_nI (n := 4) (N := 7) (by omega) (by omega)) rfl dX3_isOfKind_28 ?_
      refine lv_istore_n (lv' := [(2, .int 1), (3, .int 0), (0, .ref a0), (1, .int x)]) hx hb dX3_isOfKind_29 rfl hl (by decide) rfl (fun ls hl => ?_)
      refine lv_iinc (v := 1) (lv' := [(3, .int 1), (2, .int 1), (0, .ref a0), (1, .int x)]) hx hb dX3_isOfKind_30 hl (k := 1) rfl (by decide) (by decide) rfl (fun ls hl => ?_)
      refine lv_goto (tgt := 7) hx hb dX3_isOfKind_33 (by decide) ?_
      refine lv_iload_n hx hb dX3_isOfKind_7 rfl (lv_at hl 0 rfl) ?_
      refine lv_bipush (v := 7) hx hb dX3_isOfKind_8 (by decide) ?_
      refine lv_icmp_ge (tgt := 36) hx hb dX3_isOfKind_10 (by decide) (fun c_33 => absurd c_33 (by decide)) (fun _ => ?_)
      refine lv_iload_n hx hb dX3_isOfKind_13 rfl (lv_at hl 1 rfl) ?_
      refine lv_if_lt (tgt := 36) hx hb dX3_isOfKind_14 (by decide) (fun c_34 => absurd c_34 (by decide)) (fun _ => ?_)
      refine lv_iload_n hx hb dX3_isOfKind_17 rfl (lv_at hl 1 rfl) ?_
      refine lv_iload_n hx hb dX3_isOfKind_18 rfl (lv_at hl 3 rfl) ?_
      refine lv_icmp_ne (tgt := 24) hx hb dX3_isOfKind_19 (by decide) (fun c_35 => ?_) (fun c_35 => ?_)
      · skip
        refine va_getsN (C := "MistHeaps") (n := "KIND_ABOVE") (d := "[I") (v := .ref kA) hx hb hN_.2.1 hS hown (va_Nw.use rfl (hN_.1 (.fieldLinkNest RX3 24 "MistHeaps" "KIND_ABOVE" "[I" "MistHeaps") (by decide +kernel))) (fun _ h9 => h9) dX3_isOfKind_24 ?_
        refine lv_iload_n hx hb dX3_isOfKind_27 rfl (lv_at hl 1 rfl) ?_
        refine va_ti (v := .int 0) hx hb hN_.2.2 hS (vp_in_nI (n := 1) (N := 7) (by omega) (by omega)) rfl dX3_isOfKind_28 ?_
        refine lv_istore_n (lv' := [(2, .int 0), (3, .int 1), (0, .ref a0), (1, .int x)]) hx hb dX3_isOfKind_29 rfl hl (by decide) rfl (fun ls hl => ?_)
        refine lv_iinc (v := 2) (lv' := [(3, .int 2), (2, .int 0), (0, .ref a0), (1, .int x)]) hx hb dX3_isOfKind_30 hl (k := 1) rfl (by decide) (by decide) rfl (fun ls hl => ?_)
        refine lv_goto (tgt := 7) hx hb dX3_isOfKind_33 (by decide) ?_
        refine lv_iload_n hx hb dX3_isOfKind_7 rfl (lv_at hl 0 rfl) ?_
        refine lv_bipush (v := 7) hx hb dX3_isOfKind_8 (by decide) ?_
        refine lv_icmp_ge (tgt := 36) hx hb dX3_isOfKind_10 (by decide) (fun c_36 => absurd c_36 (by decide)) (fun _ => ?_)
        refine lv_iload_n hx hb dX3_isOfKind_13 rfl (lv_at hl 1 rfl) ?_
        refine lv_if_lt (tgt := 36) hx hb dX3_isOfKind_14 (by decide) (fun c_37 => absurd c_37 (by decide)) (fun _ => ?_)
        refine lv_iload_n hx hb dX3_isOfKind_17 rfl (lv_at hl 1 rfl) ?_
        refine lv_iload_n hx hb dX3_isOfKind_18 rfl (lv_at hl 3 rfl) ?_
        refine lv_icmp_ne (tgt := 24) hx hb dX3_isOfKind_19 (by decide) (fun c_38 => ?_) (fun c_38 => ?_)
        · skip
          refine va_getsN (C := "MistHeaps") (n := "KIND_ABOVE") (d := "[I") (v := .ref kA) hx hb hN_.2.1 hS hown (va_Nw.use rfl (hN_.1 (.fieldLinkNest RX3 24 "MistHeaps" "KIND_ABOVE" "[I" "MistHeaps") (by decide +kernel))) (fun _ h9 => h9) dX3_isOfKind_24 ?_
          refine lv_iload_n hx hb dX3_isOfKind_27 rfl (lv_at hl 1 rfl) ?_
          refine va_ti (v := .int (-1)) hx hb hN_.2.2 hS (vp_in_nI (n := 0) (N := 7) (by omega) (by omega)) rfl dX3_isOfKind_28 ?_
          refine lv_istore_n (lv' := [(2, .int (-1)), (3, .int 2), (0, .ref a0), (1, .int x)]) hx hb dX3_isOfKind_29 rfl hl (by decide) rfl (fun ls hl => ?_)
          refine lv_iinc (v := 3) (lv' := [(3, .int 3), (2, .int (-1)), (0, .ref a0), (1, .int x)]) hx hb dX3_isOfKind_30 hl (k := 1) rfl (by decide) (by decide) rfl (fun ls hl => ?_)
          refine lv_goto (tgt := 7) hx hb dX3_isOfKind_33 (by decide) ?_
          refine lv_iload_n hx hb dX3_isOfKind_7 rfl (lv_at hl 0 rfl) ?_
          refine lv_bipush (v := 7) hx hb dX3_isOfKind_8 (by decide) ?_
          refine lv_icmp_ge (tgt := 36) hx hb dX3_isOfKind_10 (by decide) (fun c_39 => absurd c_39 (by decide)) (fun _ => ?_)
          refine lv_iload_n hx hb dX3_isOfKind_13 rfl (lv_at hl 1 rfl) ?_
          refine lv_if_lt (tgt := 36) hx hb dX3_isOfKind_14 (by decide) (fun _ => ?_) (fun c_40 => absurd c_40 (by decide))
          refine lv_iconst (v := 0) hx hb dX3_isOfKind_36 (by decide) ?_
          rw [hQ]
          exact W.zret (v := 0) hx hb hr rfl (fun tQ htQ hWQ => ⟨0, rfl, Or.inr ⟨rfl, fun q => by rcases q with q9 | q9 | ⟨q9, q8⟩ | ⟨q9, q8⟩ | ⟨q9, q8⟩; exact c_38 q9.symm; exact c_32 q9.symm; exact c_35 q9.symm; exact absurd q8 (by decide); exact absurd q8 (by decide)⟩, by rw [htQ]⟩) (fun q hq => absurd hq List.not_mem_nil) dX3_isOfKind_37
        · skip
          refine lv_iconst (v := 1) hx hb dX3_isOfKind_22 (by decide) ?_
          rw [hQ]
          exact W.zret (v := 1) hx hb hr rfl (fun tQ htQ hWQ => ⟨1, rfl, Or.inl ⟨rfl, by rw [← c_38]; decide⟩, by rw [htQ]⟩) (fun q hq => absurd hq List.not_mem_nil) dX3_isOfKind_23
      · skip
        refine lv_iconst (v := 1) hx hb dX3_isOfKind_22 (by decide) ?_
        rw [hQ]
        exact W.zret (v := 1) hx hb hr rfl (fun tQ htQ hWQ => ⟨1, rfl, Or.inl ⟨rfl, by rw [← c_35]; decide⟩, by rw [htQ]⟩) (fun q hq => absurd hq List.not_mem_nil) dX3_isOfKind_23
    · skip
      refine lv_iconst (v := 1) hx hb dX3_isOfKind_22 (by decide) ?_
      rw [hQ]
      exact W.zret (v := 1) hx hb hr rfl (fun tQ htQ hWQ => ⟨1, rfl, Or.inl ⟨rfl, by rw [← c_32]; decide⟩, by rw [htQ]⟩) (fun q hq => absurd hq List.not_mem_nil) dX3_isOfKind_23
  · skip
    refine lv_aload_n hx hb dX3_isOfKind_0 rfl (lv_at hl 0 rfl) ?_
    refine va_get (D := (dC, dI)) (ci := 11) (v := .int 5) (C := RX9) (T := TX9) (N := 4) hx hb hts kc_isOfKind_X9_1 hown hZ.2.1 (hZ.P hS) 0 rfl rfl 0 (by decide) (hts (.fieldLink RX3 9 "MistHeaps$Heap" "kind" "I") kc_isOfKind_X9_0) (fun _ h9 => h9) rfl dX3_isOfKind_1 ?_
    refine lv_istore_n (lv' := [(2, .int 5), (0, .ref a0), (1, .int x)]) hx hb dX3_isOfKind_4 rfl hl (by decide) rfl (fun ls hl => ?_)
    refine lv_iconst (v := 0) hx hb dX3_isOfKind_5 (by decide) ?_
    refine lv_istore_n (lv' := [(3, .int 0), (2, .int 5), (0, .ref a0), (1, .int x)]) hx hb dX3_isOfKind_6 rfl hl (by decide) rfl (fun ls hl => ?_)
    refine lv_iload_n hx hb dX3_isOfKind_7 rfl (lv_at hl 0 rfl) ?_
    refine lv_bipush (v := 7) hx hb dX3_isOfKind_8 (by decide) ?_
    refine lv_icmp_ge (tgt := 36) hx hb dX3_isOfKind_10 (by decide) (fun c_41 => absurd c_41 (by decide)) (fun _ => ?_)
    refine lv_iload_n hx hb dX3_isOfKind_13 rfl (lv_at hl 1 rfl) ?_
    refine lv_if_lt (tgt := 36) hx hb dX3_isOfKind_14 (by decide) (fun c_42 => absurd c_42 (by decide)) (fun _ => ?_)
    refine lv_iload_n hx hb dX3_isOfKind_17 rfl (lv_at hl 1 rfl) ?_
    refine lv_iload_n hx hb dX3_isOfKind_18 rfl (lv_at hl 3 rfl) ?_
    refine lv_icmp_ne (tgt := 24) hx hb dX3_isOfKind_19 (by decide) (fun c_43 => ?_) (fun c_43 => ?_)
    · skip
      refine va_getsN (C := "MistHeaps") (n := "KIND_ABOVE") (d := "[I") (v := .ref kA) hx hb hN_.2.1 hS hown (va_Nw.use rfl (hN_.1 (.fieldLinkNest RX3 24 "MistHeaps" "KIND_ABOVE" "[I" "MistHeaps") (by decide +kernel))) (fun _ h9 => h9) dX3_isOfKind_24 ?_
      refine lv_iload_n hx hb dX3_isOfKind_27 rfl (lv_at hl 1 rfl) ?_
      refine va_ti (v := .int 2) hx hb hN_.2.2 hS (vp_in_nI (n := 5) (N := 7) (by omega) (by omega)) rfl dX3_isOfKind_28 ?_
      refine lv_istore_n (lv' := [(2, .int 2), (3, .int 0), (0, .ref a0), (1, .int x)]) hx hb dX3_isOfKind_29 rfl hl (by decide) rfl (fun ls hl => ?_)
      refine lv_iinc (v := 1) (lv' := [(3, .int 1), (2, .int 2), (0, .ref a0), (1, .int x)]) hx hb dX3_isOfKind_30 hl (k := 1) rfl (by decide) (by decide) rfl (fun ls hl => ?_)
      refine lv_goto (tgt := 7) hx hb dX3_isOfKind_33 (by decide) ?_
      refine lv_iload_n hx hb dX3_isOfKind_7 rfl (lv_at hl 0 rfl) ?_
      refine lv_bipush (v := 7) hx hb dX3_isOfKind_8 (by decide) ?_
      refine lv_icmp_ge (tgt := 36) hx hb dX3_isOfKind_10 (by decide) (fun c_44 => absurd c_44 (by decide)) (fun _ => ?_)
      refine lv_iload_n hx hb dX3_isOfKind_13 rfl (lv_at hl 1 rfl) ?_
      refine lv_if_lt (tgt := 36) hx hb dX3_isOfKind_14 (by decide) (fun c_45 => absurd c_45 (by decide)) (fun _ => ?_)
      refine lv_iload_n hx hb dX3_isOfKind_17 rfl (lv_at hl 1 rfl) ?_
      refine lv_iload_n hx hb dX3_isOfKind_18 rfl (lv_at hl 3 rfl) ?_
      refine lv_icmp_ne (tgt := 24) hx hb dX3_isOfKind_19 (by decide) (fun c_46 => ?_) (fun c_46 => ?_)
      · skip
        refine va_getsN (C := "MistHeaps") (n := "KIND_ABOVE") (d := "[I") (v := .ref kA) hx hb hN_.2.1 hS hown (va_Nw.use rfl (hN_.1 (.fieldLinkNest RX3 24 "MistHeaps" "KIND_ABOVE" "[I" "MistHeaps") (by decide +kernel))) (fun _ h9 => h9) dX3_isOfKind_24 ?_
        refine lv_iload_n hx hb dX3_isOfKind_27 rfl (lv_at hl 1 rfl) ?_
        refine va_ti (v := .int 0) hx hb hN_.2.2 hS (vp_in_nI (n := 2) (N := 7) (by omega) (by omega)) rfl dX3_isOfKind_28 ?_
        refine lv_istore_n (lv' := [(2, .int 0), (3, .int 1), (0, .ref a0), (1, .int x)]) hx hb dX3_isOfKind_29 rfl hl (by decide) rfl (fun ls hl => ?_)
        refine lv_iinc (v := 2) (lv' := [(3, .int 2), (2, .int 0), (0, .ref a0), (1, .int x)]) hx hb dX3_isOfKind_30 hl (k := 1) rfl (by decide) (by decide) rfl (fun ls hl => ?_)
        refine lv_goto (tgt := 7) hx hb dX3_isOfKind_33 (by decide) ?_
        refine lv_iload_n hx hb dX3_isOfKind_7 rfl (lv_at hl 0 rfl) ?_
        refine lv_bipush (v := 7) hx hb dX3_isOfKind_8 (by decide) ?_
        refine lv_icmp_ge (tgt := 36) hx hb dX3_isOfKind_10 (by decide) (fun c_47 => absurd c_47 (by decide)) (fun _ => ?_)
        refine lv_iload_n hx hb dX3_isOfKind_13 rfl (lv_at hl 1 rfl) ?_
        refine lv_if_lt (tgt := 36) hx hb dX3_isOfKind_14 (by decide) (fun c_48 => absurd c_48 (by decide)) (fun _ => ?_)
        refine lv_iload_n hx hb dX3_isOfKind_17 rfl (lv_at hl 1 rfl) ?_
        refine lv_iload_n hx hb dX3_isOfKind_18 rfl (lv_at hl 3 rfl) ?_
        refine lv_icmp_ne (tgt := 24) hx hb dX3_isOfKind_19 (by decide) (fun c_49 => ?_) (fun c_49 => ?_)
        · skip
          refine va_getsN (C := "MistHeaps") (n := "KIND_ABOVE") (d := "[I") (v := .ref kA) hx hb hN_.2.1 hS hown (va_Nw.use rfl (hN_.1 (.fieldLinkNest RX3 24 "MistHeaps" "KIND_ABOVE" "[I" "MistHeaps") (by decide +kernel))) (fun _ h9 => h9) dX3_isOfKind_24 ?_
          refine lv_iload_n hx hb dX3_isOfKind_27 rfl (lv_at hl 1 rfl) ?_
          refine va_ti (v := .int (-1)) hx hb hN_.2.2 hS (vp_in_nI (n := 0) (N := 7) (by omega) (by omega)) rfl dX3_isOfKind_28 ?_
          refine lv_istore_n (lv' := [(2, .int (-1)), (3, .int 2), (0, .ref a0), (1, .int x)]) hx hb dX3_isOfKind_29 rfl hl (by decide) rfl (fun ls hl => ?_)
          refine lv_iinc (v := 3) (lv' := [(3, .int 3), (2, .int (-1)), (0, .ref a0), (1, .int x)]) hx hb dX3_isOfKind_30 hl (k := 1) rfl (by decide) (by decide) rfl (fun ls hl => ?_)
          refine lv_goto (tgt := 7) hx hb dX3_isOfKind_33 (by decide) ?_
          refine lv_iload_n hx hb dX3_isOfKind_7 rfl (lv_at hl 0 rfl) ?_
          refine lv_bipush (v := 7) hx hb dX3_isOfKind_8 (by decide) ?_
          refine lv_icmp_ge (tgt := 36) hx hb dX3_isOfKind_10 (by decide) (fun c_50 => absurd c_50 (by decide)) (fun _ => ?_)
          refine lv_iload_n hx hb dX3_isOfKind_13 rfl (lv_at hl 1 rfl) ?_
          refine lv_if_lt (tgt := 36) hx hb dX3_isOfKind_14 (by decide) (fun _ => ?_) (fun c_51 => absurd c_51 (by decide))
          refine lv_iconst (v := 0) hx hb dX3_isOfKind_36 (by decide) ?_
          rw [hQ]
          exact W.zret (v := 0) hx hb hr rfl (fun tQ htQ hWQ => ⟨0, rfl, Or.inr ⟨rfl, fun q => by rcases q with q9 | q9 | ⟨q9, q8⟩ | ⟨q9, q8⟩ | ⟨q9, q8⟩; exact c_49 q9.symm; exact c_43 q9.symm; exact absurd q8 (by decide); exact c_46 q9.symm; exact absurd q8 (by decide)⟩, by rw [htQ]⟩) (fun q hq => absurd hq List.not_mem_nil) dX3_isOfKind_37
        · skip
          refine lv_iconst (v := 1) hx hb dX3_isOfKind_22 (by decide) ?_
          rw [hQ]
          exact W.zret (v := 1) hx hb hr rfl (fun tQ htQ hWQ => ⟨1, rfl, Or.inl ⟨rfl, by rw [← c_49]; decide⟩, by rw [htQ]⟩) (fun q hq => absurd hq List.not_mem_nil) dX3_isOfKind_23
      · skip
        refine lv_iconst (v := 1) hx hb dX3_isOfKind_22 (by decide) ?_
        rw [hQ]
        exact W.zret (v := 1) hx hb hr rfl (fun tQ htQ hWQ => ⟨1, rfl, Or.inl ⟨rfl, by rw [← c_46]; decide⟩, by rw [htQ]⟩) (fun q hq => absurd hq List.not_mem_nil) dX3_isOfKind_23
    · skip
      refine lv_iconst (v := 1) hx hb dX3_isOfKind_22 (by decide) ?_
      rw [hQ]
      exact W.zret (v := 1) hx hb hr rfl (fun tQ htQ hWQ => ⟨1, rfl, Or.inl ⟨rfl, by rw [← c_43]; decide⟩, by rw [htQ]⟩) (fun q hq => absurd hq List.not_mem_nil) dX3_isOfKind_23
  · skip
    refine lv_aload_n hx hb dX3_isOfKind_0 rfl (lv_at hl 0 rfl) ?_
    refine va_get (D := (dC, dI)) (ci := 11) (v := .int 6) (C := RX9) (T := TX9) (N := 4) hx hb hts kc_isOfKind_X9_1 hown hZ.2.1 (hZ.P hS) 0 rfl rfl 0 (by decide) (hts (.fieldLink RX3 9 "MistHeaps$Heap" "kind" "I") kc_isOfKind_X9_0) (fun _ h9 => h9) rfl dX3_isOfKind_1 ?_
    refine lv_istore_n (lv' := [(2, .int 6), (0, .ref a0), (1, .int x)]) hx hb dX3_isOfKind_4 rfl hl (by decide) rfl (fun ls hl => ?_)
    refine lv_iconst (v := 0) hx hb dX3_isOfKind_5 (by decide) ?_
    refine lv_istore_n (lv' := [(3, .int 0), (2, .int 6), (0, .ref a0), (1, .int x)]) hx hb dX3_isOfKind_6 rfl hl (by decide) rfl (fun ls hl => ?_)
    refine lv_iload_n hx hb dX3_isOfKind_7 rfl (lv_at hl 0 rfl) ?_
    refine lv_bipush (v := 7) hx hb dX3_isOfKind_8 (by decide) ?_
    refine lv_icmp_ge (tgt := 36) hx hb dX3_isOfKind_10 (by decide) (fun c_52 => absurd c_52 (by decide)) (fun _ => ?_)
    refine lv_iload_n hx hb dX3_isOfKind_13 rfl (lv_at hl 1 rfl) ?_
    refine lv_if_lt (tgt := 36) hx hb dX3_isOfKind_14 (by decide) (fun c_53 => absurd c_53 (by decide)) (fun _ => ?_)
    refine lv_iload_n hx hb dX3_isOfKind_17 rfl (lv_at hl 1 rfl) ?_
    refine lv_iload_n hx hb dX3_isOfKind_18 rfl (lv_at hl 3 rfl) ?_
    refine lv_icmp_ne (tgt := 24) hx hb dX3_isOfKind_19 (by decide) (fun c_54 => ?_) (fun c_54 => ?_)
    · skip
      refine va_getsN (C := "MistHeaps") (n := "KIND_ABOVE") (d := "[I") (v := .ref kA) hx hb hN_.2.1 hS hown (va_Nw.use rfl (hN_.1 (.fieldLinkNest RX3 24 "MistHeaps" "KIND_ABOVE" "[I" "MistHeaps") (by decide +kernel))) (fun _ h9 => h9) dX3_isOfKind_24 ?_
      refine lv_iload_n hx hb dX3_isOfKind_27 rfl (lv_at hl 1 rfl) ?_
      refine va_ti (v := .int 3) hx hb hN_.2.2 hS (vp_in_nI (n := 6) (N := 7) (by omega) (by omega)) rfl dX3_isOfKind_28 ?_
      refine lv_istore_n (lv' := [(2, .int 3), (3, .int 0), (0, .ref a0), (1, .int x)]) hx hb dX3_isOfKind_29 rfl hl (by decide) rfl (fun ls hl => ?_)
      refine lv_iinc (v := 1) (lv' := [(3, .int 1), (2, .int 3), (0, .ref a0), (1, .int x)]) hx hb dX3_isOfKind_30 hl (k := 1) rfl (by decide) (by decide) rfl (fun ls hl => ?_)
      refine lv_goto (tgt := 7) hx hb dX3_isOfKind_33 (by decide) ?_
      refine lv_iload_n hx hb dX3_isOfKind_7 rfl (lv_at hl 0 rfl) ?_
      refine lv_bipush (v := 7) hx hb dX3_isOfKind_8 (by decide) ?_
      refine lv_icmp_ge (tgt := 36) hx hb dX3_isOfKind_10 (by decide) (fun c_55 => absurd c_55 (by decide)) (fun _ => ?_)
      refine lv_iload_n hx hb dX3_isOfKind_13 rfl (lv_at hl 1 rfl) ?_
      refine lv_if_lt (tgt := 36) hx hb dX3_isOfKind_14 (by decide) (fun c_56 => absurd c_56 (by decide)) (fun _ => ?_)
      refine lv_iload_n hx hb dX3_isOfKind_17 rfl (lv_at hl 1 rfl) ?_
      refine lv_iload_n hx hb dX3_isOfKind_18 rfl (lv_at hl 3 rfl) ?_
      refine lv_icmp_ne (tgt := 24) hx hb dX3_isOfKind_19 (by decide) (fun c_57 => ?_) (fun c_57 => ?_)
      · skip
        refine va_getsN (C := "MistHeaps") (n := "KIND_ABOVE") (d := "[I") (v := .ref kA) hx hb hN_.2.1 hS hown (va_Nw.use rfl (hN_.1 (.fieldLinkNest RX3 24 "MistHeaps" "KIND_ABOVE" "[I" "MistHeaps") (by decide +kernel))) (fun _ h9 => h9) dX3_isOfKind_24 ?_
        refine lv_iload_n hx hb dX3_isOfKind_27 rfl (lv_at hl 1 rfl) ?_
        refine va_ti (v := .int 0) hx hb hN_.2.2 hS (vp_in_nI (n := 3) (N := 7) (by omega) (by omega)) rfl dX3_isOfKind_28 ?_
        refine lv_istore_n (lv' := [(2, .int 0), (3, .int 1), (0, .ref a0), (1, .int x)]) hx hb dX3_isOfKind_29 rfl hl (by decide) rfl (fun ls hl => ?_)
        refine lv_iinc (v := 2) (lv' := [(3, .int 2), (2, .int 0), (0, .ref a0), (1, .int x)]) hx hb dX3_isOfKind_30 hl (k := 1) rfl (by decide) (by decide) rfl (fun ls hl => ?_)
        refine lv_goto (tgt := 7) hx hb dX3_isOfKind_33 (by decide) ?_
        refine lv_iload_n hx hb dX3_isOfKind_7 rfl (lv_at hl 0 rfl) ?_
        refine lv_bipush (v := 7) hx hb dX3_isOfKind_8 (by decide) ?_
        refine lv_icmp_ge (tgt := 36) hx hb dX3_isOfKind_10 (by decide) (fun c_58 => absurd c_58 (by decide)) (fun _ => ?_)
        refine lv_iload_n hx hb dX3_isOfKind_13 rfl (lv_at hl 1 rfl) ?_
        refine lv_if_lt (tgt := 36) hx hb dX3_isOfKind_14 (by decide) (fun c_59 => absurd c_59 (by decide)) (fun _ => ?_)
        refine lv_iload_n hx hb dX3_isOfKind_17 rfl (lv_at hl 1 rfl) ?_
        refine lv_iload_n hx hb dX3_isOfKind_18 rfl (lv_at hl 3 rfl) ?_
        refine lv_icmp_ne (tgt := 24) hx hb dX3_isOfKind_19 (by decide) (fun c_60 => ?_) (fun c_60 => ?_)
        · skip
          refine va_getsN (C := "MistHeaps") (n := "KIND_ABOVE") (d := "[I") (v := .ref kA) hx hb hN_.2.1 hS hown (va_Nw.use rfl (hN_.1 (.fieldLinkNest RX3 24 "MistHeaps" "KIND_ABOVE" "[I" "MistHeaps") (by decide +kernel))) (fun _ h9 => h9) dX3_isOfKind_24 ?_
          refine lv_iload_n hx hb dX3_isOfKind_27 rfl (lv_at hl 1 rfl) ?_
          refine va_ti (v := .int (-1)) hx hb hN_.2.2 hS (vp_in_nI (n := 0) (N := 7) (by omega) (by omega)) rfl dX3_isOfKind_28 ?_
          refine lv_istore_n (lv' := [(2, .int (-1)), (3, .int 2), (0, .ref a0), (1, .int x)]) hx hb dX3_isOfKind_29 rfl hl (by decide) rfl (fun ls hl => ?_)
          refine lv_iinc (v := 3) (lv' := [(3, .int 3), (2, .int (-1)), (0, .ref a0), (1, .int x)]) hx hb dX3_isOfKind_30 hl (k := 1) rfl (by decide) (by decide) rfl (fun ls hl => ?_)
          refine lv_goto (tgt := 7) hx hb dX3_isOfKind_33 (by decide) ?_
          refine lv_iload_n hx hb dX3_isOfKind_7 rfl (lv_at hl 0 rfl) ?_
          refine lv_bipush (v := 7) hx hb dX3_isOfKind_8 (by decide) ?_
          refine lv_icmp_ge (tgt := 36) hx hb dX3_isOfKind_10 (by decide) (fun c_61 => absurd c_61 (by decide)) (fun _ => ?_)
          refine lv_iload_n hx hb dX3_isOfKind_13 rfl (lv_at hl 1 rfl) ?_
          refine lv_if_lt (tgt := 36) hx hb dX3_isOfKind_14 (by decide) (fun _ => ?_) (fun c_62 => absurd c_62 (by decide))
          refine lv_iconst (v := 0) hx hb dX3_isOfKind_36 (by decide) ?_
          rw [hQ]
          exact W.zret (v := 0) hx hb hr rfl (fun tQ htQ hWQ => ⟨0, rfl, Or.inr ⟨rfl, fun q => by rcases q with q9 | q9 | ⟨q9, q8⟩ | ⟨q9, q8⟩ | ⟨q9, q8⟩; exact c_60 q9.symm; exact c_54 q9.symm; exact absurd q8 (by decide); exact absurd q8 (by decide); exact c_57 q9.symm⟩, by rw [htQ]⟩) (fun q hq => absurd hq List.not_mem_nil) dX3_isOfKind_37
        · skip
          refine lv_iconst (v := 1) hx hb dX3_isOfKind_22 (by decide) ?_
          rw [hQ]
          exact W.zret (v := 1) hx hb hr rfl (fun tQ htQ hWQ => ⟨1, rfl, Or.inl ⟨rfl, by rw [← c_60]; decide⟩, by rw [htQ]⟩) (fun q hq => absurd hq List.not_mem_nil) dX3_isOfKind_23
      · skip
        refine lv_iconst (v := 1) hx hb dX3_isOfKind_22 (by decide) ?_
        rw [hQ]
        exact W.zret (v := 1) hx hb hr rfl (fun tQ htQ hWQ => ⟨1, rfl, Or.inl ⟨rfl, by rw [← c_57]; decide⟩, by rw [htQ]⟩) (fun q hq => absurd hq List.not_mem_nil) dX3_isOfKind_23
    · skip
      refine lv_iconst (v := 1) hx hb dX3_isOfKind_22 (by decide) ?_
      rw [hQ]
      exact W.zret (v := 1) hx hb hr rfl (fun tQ htQ hWQ => ⟨1, rfl, Or.inl ⟨rfl, by rw [← c_54]; decide⟩, by rw [htQ]⟩) (fun q hq => absurd hq List.not_mem_nil) dX3_isOfKind_23

theorem kc_isOfKind_X7_0 : (.fieldLink RX3 9 "MistHeaps$Heap" "kind" "I" : Cond) ∈ wsX3_isOfKind := kc_of 228 rfl rfl rfl
theorem kc_isOfKind_X7_1 : ∀ w ∈ wsX70, w ∈ wsX3_isOfKind := fun w h => List.mem_cons_of_mem _ (gin_wsX70 w h)
set_option maxHeartbeats 4000000 in
set_option maxRecDepth 100000 in
theorem c_isOfKind_X7 (l : Launch) (dC : Nat → ClassId) (dI : Nat → Nat → Nat) (kA : Nat)  (i0 : Nat) (sk : Int32) (sv : Int32) (scl : Int32) (x : Int32) (a0 : Nat) (zk7 : ∃ k7 : Nat, k7 < 7 ∧ sk = nI k7) : Met l yX3_isOfKind wsX3_isOfKind ({ frames := 0, cells := 0, slots := 0, locals := 0 } : Room) (va_Pc [.ref a0, .int x] (fun U => Gn kA (fun _ => False) U ∧ Fz dC dI [(zo9iiii a0 sk (nI i0) sv scl)] [] (fun _ => False) U)) (vp_Si (fun r => (r = 1 ∧ isU sk x) ∨ (r = 0 ∧ ¬ isU sk x))) 0 0 (fun _ => False) := by
  refine met_ofQ (cc := cX3_isOfKind) (maxL := 4) (ret := (some .boolean)) (by decide) rfl ?_
  intro p e s m args below meth c s₁ Q B hml hv hQ
  obtain ⟨rfl, hN_, hZ⟩ := hv
  have hx := B.exec
  have hb := B.bytes
  have hr := B.returns
  have hts := atoms_spec (ws := wsX3_isOfKind) B.pre
  have hown : s.vm.findClass RX3 = some m.cls := findClass_of_methodNamed B.named
  have hlocks := B.notSynchronized
  obtain ⟨A, hAe⟩ : ∃ A : Nat → Prop, A = fun _ => False := ⟨_, rfl⟩
  rw [← hAe] at hQ hN_ hZ
  have hS : va_S A s.heap s.heap [] := va_S.rf
  have hl := lv_entry [.ref a0, .int x] (n := 4) (Nat.le_of_ble_eq_true rfl)
  rw [lg_entry_eq]
  generalize (lg_sl [.ref a0, .int x] ++ List.replicate (4 - (lg_sl [.ref a0, .int x]).length) Slot.unset).toArray = ls at hl ⊢
  generalize hag : ([.ref a0, .int x] : List Value).toArray = args at hts hQ ⊢
  have hl : lv_has ls 4 [(0, .ref a0), (1, .int x)] := hl
  rcases kd7 zk7 with rfl | rfl | rfl | rfl | rfl | rfl | rfl
  · skip
    refine lv_aload_n hx hb dX3_isOfKind_0 rfl (lv_at hl 0 rfl) ?_
    refine va_get (D := (dC, dI)) (ci := 9) (v := .int 0) (C := RX7) (T := TX7) (N := 4) hx hb hts kc_isOfKind_X7_1 hown hZ.2.1 (hZ.P hS) 0 rfl rfl 0 (by decide) (hts (.fieldLink RX3 9 "MistHeaps$Heap" "kind" "I") kc_isOfKind_X7_0) (fun _ h9 => h9) rfl dX3_isOfKind_1 ?_
    refine lv_istore_n (lv' := [(2, .int 0), (0, .ref a0), (1, .int x)]) hx hb dX3_isOfKind_4 rfl hl (by decide) rfl (fun ls hl => ?_)
    refine lv_iconst (v := 0) hx hb dX3_isOfKind_5 (by decide) ?_
    refine lv_istore_n (lv' := [(3, .int 0), (2, .int 0), (0, .ref a0), (1, .int x)]) hx hb dX3_isOfKind_6 rfl hl (by decide) rfl (fun ls hl => ?_)
    refine lv_iload_n hx hb dX3_isOfKind_7 rfl (lv_at hl 0 rfl) ?_
    refine lv_bipush (v := 7) hx hb dX3_isOfKind_8 (by decide) ?_
    refine lv_icmp_ge (tgt := 36) hx hb dX3_isOfKind_10 (by decide) (fun c_1 => absurd c_1 (by decide)) (fun _ => ?_)
    refine lv_iload_n hx hb dX3_isOfKind_13 rfl (lv_at hl 1 rfl) ?_
    refine lv_if_lt (tgt := 36) hx hb dX3_isOfKind_14 (by decide) (fun c_2 => absurd c_2 (by decide)) (fun _ => ?_)
    refine lv_iload_n hx hb dX3_isOfKind_17 rfl (lv_at hl 1 rfl) ?_
    refine lv_iload_n hx hb dX3_isOfKind_18 rfl (lv_at hl 3 rfl) ?_
    refine lv_icmp_ne (tgt := 24) hx hb dX3_isOfKind_19 (by decide) (fun c_3 => ?_) (fun c_3 => ?_)
    · skip
      refine va_getsN (C := "MistHeaps") (n := "KIND_ABOVE") (d := "[I") (v := .ref kA) hx hb hN_.2.1 hS hown (va_Nw.use rfl (hN_.1 (.fieldLinkNest RX3 24 "MistHeaps" "KIND_ABOVE" "[I" "MistHeaps") (by decide +kernel))) (fun _ h9 => h9) dX3_isOfKind_24 ?_
      refine lv_iload_n hx hb dX3_isOfKind_27 rfl (lv_at hl 1 rfl) ?_
      refine va_ti (v := .int (-1)) hx hb hN_.2.2 hS (vp_in_nI (n := 0) (N := 7) (by omega) (by omega)) rfl dX3_isOfKind_28 ?_
      refine lv_istore_n (lv' := [(2, .int (-1)), (3, .int 0), (0, .ref a0), (1, .int x)]) hx hb dX3_isOfKind_29 rfl hl (by decide) rfl (fun ls hl => ?_)
      refine lv_iinc (v := 1) (lv' := [(3, .int 1), (2, .int (-1)), (0, .ref a0), (1, .int x)]) hx hb dX3_isOfKind_30 hl (k := 1) rfl (by decide) (by decide) rfl (fun ls hl => ?_)
      refine lv_goto (tgt := 7) hx hb dX3_isOfKind_33 (by decide) ?_
      refine lv_iload_n hx hb dX3_isOfKind_7 rfl (lv_at hl 0 rfl) ?_
      refine lv_bipush (v := 7) hx hb dX3_isOfKind_8 (by decide) ?_
      refine lv_icmp_ge (tgt := 36) hx hb dX3_isOfKind_10 (by decide) (fun c_4 => absurd c_4 (by decide)) (fun _ => ?_)
      refine lv_iload_n hx hb dX3_isOfKind_13 rfl (lv_at hl 1 rfl) ?_
      refine lv_if_lt (tgt := 36) hx hb dX3_isOfKind_14 (by decide) (fun _ => ?_) (fun c_5 => absurd c_5 (by decide))
      refine lv_iconst (v := 0) hx hb dX3_isOfKind_36 (by decide) ?_
      rw [hQ]
      exact W.zret (v := 0) hx hb hr rfl (fun tQ htQ hWQ => ⟨0, rfl, Or.inr ⟨rfl, fun q => by rcases q with q9 | q9 | ⟨q9, q8⟩ | ⟨q9, q8⟩ | ⟨q9, q8⟩; exact c_3 q9.symm; exact c_3 q9.symm; exact absurd q8 (by decide); exact absurd q8 (by decide); exact absurd q8 (by decide)⟩, by rw [htQ]⟩) (fun q hq => absurd hq List.not_mem_nil) dX3_isOfKind_37
    · skip
      refine lv_iconst (v := 1) hx hb dX3_isOfKind_22 (by decide) ?_
      rw [hQ]
      exact W.zret (v := 1) hx hb hr rfl (fun tQ htQ hWQ => ⟨1, rfl, Or.inl ⟨rfl, by rw [← c_3]; decide⟩, by rw [htQ]⟩) (fun q hq => absurd hq List.not_mem_nil) dX3_isOfKind_23
  · skip
    refine lv_aload_n hx hb dX3_isOfKind_0 rfl (lv_at hl 0 rfl) ?_
    refine va_get (D := (dC, dI)) (ci := 9) (v := .int 1) (C := RX7) (T := TX7) (N := 4) hx hb hts kc_isOfKind_X7_1 hown hZ.2.1 (hZ.P hS) 0 rfl rfl 0 (by decide) (hts (.fieldLink RX3 9 "MistHeaps$Heap" "kind" "I") kc_isOfKind_X7_0) (fun _ h9 => h9) rfl dX3_isOfKind_1 ?_
    refine lv_istore_n (lv' := [(2, .int 1), (0, .ref a0), (1, .int x)]) hx hb dX3_isOfKind_4 rfl hl (by decide) rfl (fun ls hl => ?_)
    refine lv_iconst (v := 0) hx hb dX3_isOfKind_5 (by decide) ?_
    refine lv_istore_n (lv' := [(3, .int 0), (2, .int 1), (0, .ref a0), (1, .int x)]) hx hb dX3_isOfKind_6 rfl hl (by decide) rfl (fun ls hl => ?_)
    refine lv_iload_n hx hb dX3_isOfKind_7 rfl (lv_at hl 0 rfl) ?_
    refine lv_bipush (v := 7) hx hb dX3_isOfKind_8 (by decide) ?_
    refine lv_icmp_ge (tgt := 36) hx hb dX3_isOfKind_10 (by decide) (fun c_6 => absurd c_6 (by decide)) (fun _ => ?_)
    refine lv_iload_n hx hb dX3_isOfKind_13 rfl (lv_at hl 1 rfl) ?_
    refine lv_if_lt (tgt := 36) hx hb dX3_isOfKind_14 (by decide) (fun c_7 => absurd c_7 (by decide)) (fun _ => ?_)
    refine lv_iload_n hx hb dX3_isOfKind_17 rfl (lv_at hl 1 rfl) ?_
    refine lv_iload_n hx hb dX3_isOfKind_18 rfl (lv_at hl 3 rfl) ?_
    refine lv_icmp_ne (tgt := 24) hx hb dX3_isOfKind_19 (by decide) (fun c_8 => ?_) (fun c_8 => ?_)
    · skip
      refine va_getsN (C := "MistHeaps") (n := "KIND_ABOVE") (d := "[I") (v := .ref kA) hx hb hN_.2.1 hS hown (va_Nw.use rfl (hN_.1 (.fieldLinkNest RX3 24 "MistHeaps" "KIND_ABOVE" "[I" "MistHeaps") (by decide +kernel))) (fun _ h9 => h9) dX3_isOfKind_24 ?_
      refine lv_iload_n hx hb dX3_isOfKind_27 rfl (lv_at hl 1 rfl) ?_
      refine va_ti (v := .int 0) hx hb hN_.2.2 hS (vp_in_nI (n := 1) (N := 7) (by omega) (by omega)) rfl dX3_isOfKind_28 ?_
      refine lv_istore_n (lv' := [(2, .int 0), (3, .int 0), (0, .ref a0), (1, .int x)]) hx hb dX3_isOfKind_29 rfl hl (by decide) rfl (fun ls hl => ?_)
      refine lv_iinc (v := 1) (lv' := [(3, .int 1), (2, .int 0), (0, .ref a0), (1, .int x)]) hx hb dX3_isOfKind_30 hl (k := 1) rfl (by decide) (by decide) rfl (fun ls hl => ?_)
      refine lv_goto (tgt := 7) hx hb dX3_isOfKind_33 (by decide) ?_
      refine lv_iload_n hx hb dX3_isOfKind_7 rfl (lv_at hl 0 rfl) ?_
      refine lv_bipush (v := 7) hx hb dX3_isOfKind_8 (by decide) ?_
      refine lv_icmp_ge (tgt := 36) hx hb dX3_isOfKind_10 (by decide) (fun c_9 => absurd c_9 (by decide)) (fun _ => ?_)
      refine lv_iload_n hx hb dX3_isOfKind_13 rfl (lv_at hl 1 rfl) ?_
      refine lv_if_lt (tgt := 36) hx hb dX3_isOfKind_14 (by decide) (fun c_10 => absurd c_10 (by decide)) (fun _ => ?_)
      refine lv_iload_n hx hb dX3_isOfKind_17 rfl (lv_at hl 1 rfl) ?_
      refine lv_iload_n hx hb dX3_isOfKind_18 rfl (lv_at hl 3 rfl) ?_
      refine lv_icmp_ne (tgt := 24) hx hb dX3_isOfKind_19 (by decide) (fun c_11 => ?_) (fun c_11 => ?_)
      · skip
        refine va_getsN (C := "MistHeaps") (n := "KIND_ABOVE") (d := "[I") (v := .ref kA) hx hb hN_.2.1 hS hown (va_Nw.use rfl (hN_.1 (.fieldLinkNest RX3 24 "MistHeaps" "KIND_ABOVE" "[I" "MistHeaps") (by decide +kernel))) (fun _ h9 => h9) dX3_isOfKind_24 ?_
        refine lv_iload_n hx hb dX3_isOfKind_27 rfl (lv_at hl 1 rfl) ?_
        refine va_ti (v := .int (-1)) hx hb hN_.2.2 hS (vp_in_nI (n := 0) (N := 7) (by omega) (by omega)) rfl dX3_isOfKind_28 ?_
        refine lv_istore_n (lv' := [(2, .int (-1)), (3, .int 1), (0, .ref a0), (1, .int x)]) hx hb dX3_isOfKind_29 rfl hl (by decide) rfl (fun ls hl => ?_)
        refine lv_iinc (v := 2) (lv' := [(3, .int 2), (2, .int (-1)), (0, .ref a0), (1, .int x)]) hx hb dX3_isOfKind_30 hl (k := 1) rfl (by decide) (by decide) rfl (fun ls hl => ?_)
        refine lv_goto (tgt := 7) hx hb dX3_isOfKind_33 (by decide) ?_
        refine lv_iload_n hx hb dX3_isOfKind_7 rfl (lv_at hl 0 rfl) ?_
        refine lv_bipush (v := 7) hx hb dX3_isOfKind_8 (by decide) ?_
        refine lv_icmp_ge (tgt := 36) hx hb dX3_isOfKind_10 (by decide) (fun c_12 => absurd c_12 (by decide)) (fun _ => ?_)
        refine lv_iload_n hx hb dX3_isOfKind_13 rfl (lv_at hl 1 rfl) ?_
        refine lv_if_lt (tgt := 36) hx hb dX3_isOfKind_14 (by decide) (fun _ => ?_) (fun c_13 => absurd c_13 (by decide))
        refine lv_iconst (v := 0) hx hb dX3_isOfKind_36 (by decide) ?_
        rw [hQ]
        exact W.zret (v := 0) hx hb hr rfl (fun tQ htQ hWQ => ⟨0, rfl, Or.inr ⟨rfl, fun q => by rcases q with q9 | q9 | ⟨q9, q8⟩ | ⟨q9, q8⟩ | ⟨q9, q8⟩; exact c_11 q9.symm; exact c_8 q9.symm; exact absurd q8 (by decide); exact absurd q8 (by decide); exact absurd q8 (by decide)⟩, by rw [htQ]⟩) (fun q hq => absurd hq List.not_mem_nil) dX3_isOfKind_37
      · skip
        refine lv_iconst (v := 1) hx hb dX3_isOfKind_22 (by decide) ?_
        rw [hQ]
        exact W.zret (v := 1) hx hb hr rfl (fun tQ htQ hWQ => ⟨1, rfl, Or.inl ⟨rfl, by rw [← c_11]; decide⟩, by rw [htQ]⟩) (fun q hq => absurd hq List.not_mem_nil) dX3_isOfKind_23
    · skip
      refine lv_iconst (v := 1) hx hb dX3_isOfKind_22 (by decide) ?_
      rw [hQ]
      exact W.zret (v := 1) hx hb hr rfl (fun tQ htQ hWQ => ⟨1, rfl, Or.inl ⟨rfl, by rw [← c_8]; decide⟩, by rw [htQ]⟩) (fun q hq => absurd hq List.not_mem_nil) dX3_isOfKind_23
  · skip
    refine lv_aload_n hx hb dX3_isOfKind_0 rfl (lv_at hl 0 rfl) ?_
    refine va_get (D := (dC, dI)) (ci := 9) (v := .int 2) (C := RX7) (T := TX7) (N := 4) hx hb hts kc_isOfKind_X7_1 hown hZ.2.1 (hZ.P hS) 0 rfl rfl 0 (by decide) (hts (.fieldLink RX3 9 "MistHeaps$Heap" "kind" "I") kc_isOfKind_X7_0) (fun _ h9 => h9) rfl dX3_isOfKind_1 ?_
    refine lv_istore_n (lv' := [(2, .int 2), (0, .ref a0), (1, .int x)]) hx hb dX3_isOfKind_4 rfl hl (by decide) rfl (fun ls hl => ?_)
    refine lv_iconst (v := 0) hx hb dX3_isOfKind_5 (by decide) ?_
    refine lv_istore_n (lv' := [(3, .int 0), (2, .int 2), (0, .ref a0), (1, .int x)]) hx hb dX3_isOfKind_6 rfl hl (by decide) rfl (fun ls hl => ?_)
    refine lv_iload_n hx hb dX3_isOfKind_7 rfl (lv_at hl 0 rfl) ?_
    refine lv_bipush (v := 7) hx hb dX3_isOfKind_8 (by decide) ?_
    refine lv_icmp_ge (tgt := 36) hx hb dX3_isOfKind_10 (by decide) (fun c_14 => absurd c_14 (by decide)) (fun _ => ?_)
    refine lv_iload_n hx hb dX3_isOfKind_13 rfl (lv_at hl 1 rfl) ?_
    refine lv_if_lt (tgt := 36) hx hb dX3_isOfKind_14 (by decide) (fun c_15 => absurd c_15 (by decide)) (fun _ => ?_)
    refine lv_iload_n hx hb dX3_isOfKind_17 rfl (lv_at hl 1 rfl) ?_
    refine lv_iload_n hx hb dX3_isOfKind_18 rfl (lv_at hl 3 rfl) ?_
    refine lv_icmp_ne (tgt := 24) hx hb dX3_isOfKind_19 (by decide) (fun c_16 => ?_) (fun c_16 => ?_)
    · skip
      refine va_getsN (C := "MistHeaps") (n := "KIND_ABOVE") (d := "[I") (v := .ref kA) hx hb hN_.2.1 hS hown (va_Nw.use rfl (hN_.1 (.fieldLinkNest RX3 24 "MistHeaps" "KIND_ABOVE" "[I" "MistHeaps") (by decide +kernel))) (fun _ h9 => h9) dX3_isOfKind_24 ?_
      refine lv_iload_n hx hb dX3_isOfKind_27 rfl (lv_at hl 1 rfl) ?_
      refine va_ti (v := .int 0) hx hb hN_.2.2 hS (vp_in_nI (n := 2) (N := 7) (by omega) (by omega)) rfl dX3_isOfKind_28 ?_
      refine lv_istore_n (lv' := [(2, .int 0), (3, .int 0), (0, .ref a0), (1, .int x)]) hx hb dX3_isOfKind_29 rfl hl (by decide) rfl (fun ls hl => ?_)
      refine lv_iinc (v := 1) (lv' := [(3, .int 1), (2, .int 0), (0, .ref a0), (1, .int x)]) hx hb dX3_isOfKind_30 hl (k := 1) rfl (by decide) (by decide) rfl (fun ls hl => ?_)
      refine lv_goto (tgt := 7) hx hb dX3_isOfKind_33 (by decide) ?_
      refine lv_iload_n hx hb dX3_isOfKind_7 rfl (lv_at hl 0 rfl) ?_
      refine lv_bipush (v := 7) hx hb dX3_isOfKind_8 (by decide) ?_
      refine lv_icmp_ge (tgt := 36) hx hb dX3_isOfKind_10 (by decide) (fun c_17 => absurd c_17 (by decide)) (fun _ => ?_)
      refine lv_iload_n hx hb dX3_isOfKind_13 rfl (lv_at hl 1 rfl) ?_
      refine lv_if_lt (tgt := 36) hx hb dX3_isOfKind_14 (by decide) (fun c_18 => absurd c_18 (by decide)) (fun _ => ?_)
      refine lv_iload_n hx hb dX3_isOfKind_17 rfl (lv_at hl 1 rfl) ?_
      refine lv_iload_n hx hb dX3_isOfKind_18 rfl (lv_at hl 3 rfl) ?_
      refine lv_icmp_ne (tgt := 24) hx hb dX3_isOfKind_19 (by decide) (fun c_19 => ?_) (fun c_19 => ?_)
      · skip
        refine va_getsN (C := "MistHeaps") (n := "KIND_ABOVE") (d := "[I") (v := .ref kA) hx hb hN_.2.1 hS hown (va_Nw.use rfl (hN_.1 (.fieldLinkNest RX3 24 "MistHeaps" "KIND_ABOVE" "[I" "MistHeaps") (by decide +kernel))) (fun _ h9 => h9) dX3_isOfKind_24 ?_
        refine lv_iload_n hx hb dX3_isOfKind_27 rfl (lv_at hl 1 rfl) ?_
        refine va_ti (v := .int (-1)) hx hb hN_.2.2 hS (vp_in_nI (n := 0) (N := 7) (by omega) (by omega)) rfl dX3_isOfKind_28 ?_
        refine lv_istore_n (lv' := [(2, .int (-1)), (3, .int 1), (0, .ref a0), (1, .int x)]) hx hb dX3_isOfKind_29 rfl hl (by decide) rfl (fun ls hl => ?_)
        refine lv_iinc (v := 2) (lv' := [(3, .int 2), (2, .int (-1)), (0, .ref a0), (1, .int x)]) hx hb dX3_isOfKind_30 hl (k := 1) rfl (by decide) (by decide) rfl (fun ls hl => ?_)
        refine lv_goto (tgt := 7) hx hb dX3_isOfKind_33 (by decide) ?_
        refine lv_iload_n hx hb dX3_isOfKind_7 rfl (lv_at hl 0 rfl) ?_
        refine lv_bipush (v := 7) hx hb dX3_isOfKind_8 (by decide) ?_
        refine lv_icmp_ge (tgt := 36) hx hb dX3_isOfKind_10 (by decide) (fun c_20 => absurd c_20 (by decide)) (fun _ => ?_)
        refine lv_iload_n hx hb dX3_isOfKind_13 rfl (lv_at hl 1 rfl) ?_
        refine lv_if_lt (tgt := 36) hx hb dX3_isOfKind_14 (by decide) (fun _ => ?_) (fun c_21 => absurd c_21 (by decide))
        refine lv_iconst (v := 0) hx hb dX3_isOfKind_36 (by decide) ?_
        rw [hQ]
        exact W.zret (v := 0) hx hb hr rfl (fun tQ htQ hWQ => ⟨0, rfl, Or.inr ⟨rfl, fun q => by rcases q with q9 | q9 | ⟨q9, q8⟩ | ⟨q9, q8⟩ | ⟨q9, q8⟩; exact c_19 q9.symm; exact c_16 q9.symm; exact absurd q8 (by decide); exact absurd q8 (by decide); exact absurd q8 (by decide)⟩, by rw [htQ]⟩) (fun q hq => absurd hq List.not_mem_nil) dX3_isOfKind_37
      · skip
        refine lv_iconst (v := 1) hx hb dX3_isOfKind_22 (by decide) ?_
        rw [hQ]
        exact W.zret (v := 1) hx hb hr rfl (fun tQ htQ hWQ => ⟨1, rfl, Or.inl ⟨rfl, by rw [← c_19]; decide⟩, by rw [htQ]⟩) (fun q hq => absurd hq List.not_mem_nil) dX3_isOfKind_23
    · skip
      refine lv_iconst (v := 1) hx hb dX3_isOfKind_22 (by decide) ?_
      rw [hQ]
      exact W.zret (v := 1) hx hb hr rfl (fun tQ htQ hWQ => ⟨1, rfl, Or.inl ⟨rfl, by rw [← c_16]; decide⟩, by rw [htQ]⟩) (fun q hq => absurd hq List.not_mem_nil) dX3_isOfKind_23
  · skip
    refine lv_aload_n hx hb dX3_isOfKind_0 rfl (lv_at hl 0 rfl) ?_
    refine va_get (D := (dC, dI)) (ci := 9) (v := .int 3) (C := RX7) (T := TX7) (N := 4) hx hb hts kc_isOfKind_X7_1 hown hZ.2.1 (hZ.P hS) 0 rfl rfl 0 (by decide) (hts (.fieldLink RX3 9 "MistHeaps$Heap" "kind" "I") kc_isOfKind_X7_0) (fun _ h9 => h9) rfl dX3_isOfKind_1 ?_
    refine lv_istore_n (lv' := [(2, .int 3), (0, .ref a0), (1, .int x)]) hx hb dX3_isOfKind_4 rfl hl (by decide) rfl (fun ls hl => ?_)
    refine lv_iconst (v := 0) hx hb dX3_isOfKind_5 (by decide) ?_
    refine lv_istore_n (lv' := [(3, .int 0), (2, .int 3), (0, .ref a0), (1, .int x)]) hx hb dX3_isOfKind_6 rfl hl (by decide) rfl (fun ls hl => ?_)
    refine lv_iload_n hx hb dX3_isOfKind_7 rfl (lv_at hl 0 rfl) ?_
    refine lv_bipush (v := 7) hx hb dX3_isOfKind_8 (by decide) ?_
    refine lv_icmp_ge (tgt := 36) hx hb dX3_isOfKind_10 (by decide) (fun c_22 => absurd c_22 (by decide)) (fun _ => ?_)
    refine lv_iload_n hx hb dX3_isOfKind_13 rfl (lv_at hl 1 rfl) ?_
    refine lv_if_lt (tgt := 36) hx hb dX3_isOfKind_14 (by decide) (fun c_23 => absurd c_23 (by decide)) (fun _ => ?_)
    refine lv_iload_n hx hb dX3_isOfKind_17 rfl (lv_at hl 1 rfl) ?_
    refine lv_iload_n hx hb dX3_isOfKind_18 rfl (lv_at hl 3 rfl) ?_
    refine lv_icmp_ne (tgt := 24) hx hb dX3_isOfKind_19 (by decide) (fun c_24 => ?_) (fun c_24 => ?_)
    · skip
      refine va_getsN (C := "MistHeaps") (n := "KIND_ABOVE") (d := "[I") (v := .ref kA) hx hb hN_.2.1 hS hown (va_Nw.use rfl (hN_.1 (.fieldLinkNest RX3 24 "MistHeaps" "KIND_ABOVE" "[I" "MistHeaps") (by decide +kernel))) (fun _ h9 => h9) dX3_isOfKind_24 ?_
      refine lv_iload_n hx hb dX3_isOfKind_27 rfl (lv_at hl 1 rfl) ?_
      refine va_ti (v := .int 0) hx hb hN_.2.2 hS (vp_in_nI (n := 3) (N := 7) (by omega) (by omega)) rfl dX3_isOfKind_28 ?_
      refine lv_istore_n (lv' := [(2, .int 0), (3, .int 0), (0, .ref a0), (1, .int x)]) hx hb dX3_isOfKind_29 rfl hl (by decide) rfl (fun ls hl => ?_)
      refine lv_iinc (v := 1) (lv' := [(3, .int 1), (2, .int 0), (0, .ref a0), (1, .int x)]) hx hb dX3_isOfKind_30 hl (k := 1) rfl (by decide) (by decide) rfl (fun ls hl => ?_)
      refine lv_goto (tgt := 7) hx hb dX3_isOfKind_33 (by decide) ?_
      refine lv_iload_n hx hb dX3_isOfKind_7 rfl (lv_at hl 0 rfl) ?_
      refine lv_bipush (v := 7) hx hb dX3_isOfKind_8 (by decide) ?_
      refine lv_icmp_ge (tgt := 36) hx hb dX3_isOfKind_10 (by decide) (fun c_25 => absurd c_25 (by decide)) (fun _ => ?_)
      refine lv_iload_n hx hb dX3_isOfKind_13 rfl (lv_at hl 1 rfl) ?_
      refine lv_if_lt (tgt := 36) hx hb dX3_isOfKind_14 (by decide) (fun c_26 => absurd c_26 (by decide)) (fun _ => ?_)
      refine lv_iload_n hx hb dX3_isOfKind_17 rfl (lv_at hl 1 rfl) ?_
      refine lv_iload_n hx hb dX3_isOfKind_18 rfl (lv_at hl 3 rfl) ?_
      refine lv_icmp_ne (tgt := 24) hx hb dX3_isOfKind_19 (by decide) (fun c_27 => ?_) (fun c_27 => ?_)
      · skip
        refine va_getsN (C := "MistHeaps") (n := "KIND_ABOVE") (d := "[I") (v := .ref kA) hx hb hN_.2.1 hS hown (va_Nw.use rfl (hN_.1 (.fieldLinkNest RX3 24 "MistHeaps" "KIND_ABOVE" "[I" "MistHeaps") (by decide +kernel))) (fun _ h9 => h9) dX3_isOfKind_24 ?_
        refine lv_iload_n hx hb dX3_isOfKind_27 rfl (lv_at hl 1 rfl) ?_
        refine va_ti (v := .int (-1)) hx hb hN_.2.2 hS (vp_in_nI (n := 0) (N := 7) (by omega) (by omega)) rfl dX3_isOfKind_28 ?_
        refine lv_istore_n (lv' := [(2, .int (-1)), (3, .int 1), (0, .ref a0), (1, .int x)]) hx hb dX3_isOfKind_29 rfl hl (by decide) rfl (fun ls hl => ?_)
        refine lv_iinc (v := 2) (lv' := [(3, .int 2), (2, .int (-1)), (0, .ref a0), (1, .int x)]) hx hb dX3_isOfKind_30 hl (k := 1) rfl (by decide) (by decide) rfl (fun ls hl => ?_)
        refine lv_goto (tgt := 7) hx hb dX3_isOfKind_33 (by decide) ?_
        refine lv_iload_n hx hb dX3_isOfKind_7 rfl (lv_at hl 0 rfl) ?_
        refine lv_bipush (v := 7) hx hb dX3_isOfKind_8 (by decide) ?_
        refine lv_icmp_ge (tgt := 36) hx hb dX3_isOfKind_10 (by decide) (fun c_28 => absurd c_28 (by decide)) (fun _ => ?_)
        refine lv_iload_n hx hb dX3_isOfKind_13 rfl (lv_at hl 1 rfl) ?_
        refine lv_if_lt (tgt := 36) hx hb dX3_isOfKind_14 (by decide) (fun _ => ?_) (fun c_29 => absurd c_29 (by decide))
        refine lv_iconst (v := 0) hx hb dX3_isOfKind_36 (by decide) ?_
        rw [hQ]
        exact W.zret (v := 0) hx hb hr rfl (fun tQ htQ hWQ => ⟨0, rfl, Or.inr ⟨rfl, fun q => by rcases q with q9 | q9 | ⟨q9, q8⟩ | ⟨q9, q8⟩ | ⟨q9, q8⟩; exact c_27 q9.symm; exact c_24 q9.symm; exact absurd q8 (by decide); exact absurd q8 (by decide); exact absurd q8 (by decide)⟩, by rw [htQ]⟩) (fun q hq => absurd hq List.not_mem_nil) dX3_isOfKind_37
      · skip
        refine lv_iconst (v := 1) hx hb dX3_isOfKind_22 (by decide) ?_
        rw [hQ]
        exact W.zret (v := 1) hx hb hr rfl (fun tQ htQ hWQ => ⟨1, rfl, Or.inl ⟨rfl, by rw [← c_27]; decide⟩, by rw [htQ]⟩) (fun q hq => absurd hq List.not_mem_nil) dX3_isOfKind_23
    · skip
      refine lv_iconst (v := 1) hx hb dX3_isOfKind_22 (by decide) ?_
      rw [hQ]
      exact W.zret (v := 1) hx hb hr rfl (fun tQ htQ hWQ => ⟨1, rfl, Or.inl ⟨rfl, by rw [← c_24]; decide⟩, by rw [htQ]⟩) (fun q hq => absurd hq List.not_mem_nil) dX3_isOfKind_23
  · skip
    refine lv_aload_n hx hb dX3_isOfKind_0 rfl (lv_at hl 0 rfl) ?_
    refine va_get (D := (dC, dI)) (ci := 9) (v := .int 4) (C := RX7) (T := TX7) (N := 4) hx hb hts kc_isOfKind_X7_1 hown hZ.2.1 (hZ.P hS) 0 rfl rfl 0 (by decide) (hts (.fieldLink RX3 9 "MistHeaps$Heap" "kind" "I") kc_isOfKind_X7_0) (fun _ h9 => h9) rfl dX3_isOfKind_1 ?_
    refine lv_istore_n (lv' := [(2, .int 4), (0, .ref a0), (1, .int x)]) hx hb dX3_isOfKind_4 rfl hl (by decide) rfl (fun ls hl => ?_)
    refine lv_iconst (v := 0) hx hb dX3_isOfKind_5 (by decide) ?_
    refine lv_istore_n (lv' := [(3, .int 0), (2, .int 4), (0, .ref a0), (1, .int x)]) hx hb dX3_isOfKind_6 rfl hl (by decide) rfl (fun ls hl => ?_)
    refine lv_iload_n hx hb dX3_isOfKind_7 rfl (lv_at hl 0 rfl) ?_
    refine lv_bipush (v := 7) hx hb dX3_isOfKind_8 (by decide) ?_
    refine lv_icmp_ge (tgt := 36) hx hb dX3_isOfKind_10 (by decide) (fun c_30 => absurd c_30 (by decide)) (fun _ => ?_)
    refine lv_iload_n hx hb dX3_isOfKind_13 rfl (lv_at hl 1 rfl) ?_
    refine lv_if_lt (tgt := 36) hx hb dX3_isOfKind_14 (by decide) (fun c_31 => absurd c_31 (by decide)) (fun _ => ?_)
    refine lv_iload_n hx hb dX3_isOfKind_17 rfl (lv_at hl 1 rfl) ?_
    refine lv_iload_n hx hb dX3_isOfKind_18 rfl (lv_at hl 3 rfl) ?_
    refine lv_icmp_ne (tgt := 24) hx hb dX3_isOfKind_19 (by decide) (fun c_32 => ?_) (fun c_32 => ?_)
    · skip
      refine va_getsN (C := "MistHeaps") (n := "KIND_ABOVE") (d := "[I") (v := .ref kA) hx hb hN_.2.1 hS hown (va_Nw.use rfl (hN_.1 (.fieldLinkNest RX3 24 "MistHeaps" "KIND_ABOVE" "[I" "MistHeaps") (by decide +kernel))) (fun _ h9 => h9) dX3_isOfKind_24 ?_
      refine lv_iload_n hx hb dX3_isOfKind_27 rfl (lv_at hl 1 rfl) ?_
      refine va_ti (v := .int 1) hx hb hN_.2.2 hS (vp_in_nI (n := 4) (N := 7) (by omega) (by omega)) rfl dX3_isOfKind_28 ?_
      refine lv_istore_n (lv' := [(2, .int 1), (3, .int 0), (0, .ref a0), (1, .int x)]) hx hb dX3_isOfKind_29 rfl hl (by decide) rfl (fun ls hl => ?_)
      refine lv_iinc (v := 1) (lv' := [(3, .int 1), (2, .int 1), (0, .ref a0), (1, .int x)]) hx hb dX3_isOfKind_30 hl (k := 1) rfl (by decide) (by decide) rfl (fun ls hl => ?_)
      refine lv_goto (tgt := 7) hx hb dX3_isOfKind_33 (by decide) ?_
      refine lv_iload_n hx hb dX3_isOfKind_7 rfl (lv_at hl 0 rfl) ?_
      refine lv_bipush (v := 7) hx hb dX3_isOfKind_8 (by decide) ?_
      refine lv_icmp_ge (tgt := 36) hx hb dX3_isOfKind_10 (by decide) (fun c_33 => absurd c_33 (by decide)) (fun _ => ?_)
      refine lv_iload_n hx hb dX3_isOfKind_13 rfl (lv_at hl 1 rfl) ?_
      refine lv_if_lt (tgt := 36) hx hb dX3_isOfKind_14 (by decide) (fun c_34 => absurd c_34 (by decide)) (fun _ => ?_)
      refine lv_iload_n hx hb dX3_isOfKind_17 rfl (lv_at hl 1 rfl) ?_
      refine lv_iload_n hx hb dX3_isOfKind_18 rfl (lv_at hl 3 rfl) ?_
      refine lv_icmp_ne (tgt := 24) hx hb dX3_isOfKind_19 (by decide) (fun c_35 => ?_) (fun c_35 => ?_)
      · skip
        refine va_getsN (C := "MistHeaps") (n := "KIND_ABOVE") (d := "[I") (v := .ref kA) hx hb hN_.2.1 hS hown (va_Nw.use rfl (hN_.1 (.fieldLinkNest RX3 24 "MistHeaps" "KIND_ABOVE" "[I" "MistHeaps") (by decide +kernel))) (fun _ h9 => h9) dX3_isOfKind_24 ?_
        refine lv_iload_n hx hb dX3_isOfKind_27 rfl (lv_at hl 1 rfl) ?_
        refine va_ti (v := .int 0) hx hb hN_.2.2 hS (vp_in_nI (n := 1) (N := 7) (by omega) (by omega)) rfl dX3_isOfKind_28 ?_
        refine lv_istore_n (lv' := [(2, .int 0), (3, .int 1), (0, .ref a0), (1, .int x)]) hx hb dX3_isOfKind_29 rfl hl (by decide) rfl (fun ls hl => ?_)
        refine lv_iinc (v := 2) (lv' := [(3, .int 2), (2, .int 0), (0, .ref a0), (1, .int x)]) hx hb dX3_isOfKind_30 hl (k := 1) rfl (by decide) (by decide) rfl (fun ls hl => ?_)
        refine lv_goto (tgt := 7) hx hb dX3_isOfKind_33 (by decide) ?_
        refine lv_iload_n hx hb dX3_isOfKind_7 rfl (lv_at hl 0 rfl) ?_
        refine lv_bipush (v := 7) hx hb dX3_isOfKind_8 (by decide) ?_
        refine lv_icmp_ge (tgt := 36) hx hb dX3_isOfKind_10 (by decide) (fun c_36 => absurd c_36 (by decide)) (fun _ => ?_)
        refine lv_iload_n hx hb dX3_isOfKind_13 rfl (lv_at hl 1 rfl) ?_
        refine lv_if_lt (tgt := 36) hx hb dX3_isOfKind_14 (by decide) (fun c_37 => absurd c_37 (by decide)) (fun _ => ?_)
        refine lv_iload_n hx hb dX3_isOfKind_17 rfl (lv_at hl 1 rfl) ?_
        refine lv_iload_n hx hb dX3_isOfKind_18 rfl (lv_at hl 3 rfl) ?_
        refine lv_icmp_ne (tgt := 24) hx hb dX3_isOfKind_19 (by decide) (fun c_38 => ?_) (fun c_38 => ?_)
        · skip
          refine va_getsN (C := "MistHeaps") (n := "KIND_ABOVE") (d := "[I") (v := .ref kA) hx hb hN_.2.1 hS hown (va_Nw.use rfl (hN_.1 (.fieldLinkNest RX3 24 "MistHeaps" "KIND_ABOVE" "[I" "MistHeaps") (by decide +kernel))) (fun _ h9 => h9) dX3_isOfKind_24 ?_
          refine lv_iload_n hx hb dX3_isOfKind_27 rfl (lv_at hl 1 rfl) ?_
          refine va_ti (v := .int (-1)) hx hb hN_.2.2 hS (vp_in_nI (n := 0) (N := 7) (by omega) (by omega)) rfl dX3_isOfKind_28 ?_
          refine lv_istore_n (lv' := [(2, .int (-1)), (3, .int 2), (0, .ref a0), (1, .int x)]) hx hb dX3_isOfKind_29 rfl hl (by decide) rfl (fun ls hl => ?_)
          refine lv_iinc (v := 3) (lv' := [(3, .int 3), (2, .int (-1)), (0, .ref a0), (1, .int x)]) hx hb dX3_isOfKind_30 hl (k := 1) rfl (by decide) (by decide) rfl (fun ls hl => ?_)
          refine lv_goto (tgt := 7) hx hb dX3_isOfKind_33 (by decide) ?_
          refine lv_iload_n hx hb dX3_isOfKind_7 rfl (lv_at hl 0 rfl) ?_
          refine lv_bipush (v := 7) hx hb dX3_isOfKind_8 (by decide) ?_
          refine lv_icmp_ge (tgt := 36) hx hb dX3_isOfKind_10 (by decide) (fun c_39 => absurd c_39 (by decide)) (fun _ => ?_)
          refine lv_iload_n hx hb dX3_isOfKind_13 rfl (lv_at hl 1 rfl) ?_
          refine lv_if_lt (tgt := 36) hx hb dX3_isOfKind_14 (by decide) (fun _ => ?_) (fun c_40 => absurd c_40 (by decide))
          refine lv_iconst (v := 0) hx hb dX3_isOfKind_36 (by decide) ?_
          rw [hQ]
          exact W.zret (v := 0) hx hb hr rfl (fun tQ htQ hWQ => ⟨0, rfl, Or.inr ⟨rfl, fun q => by rcases q with q9 | q9 | ⟨q9, q8⟩ | ⟨q9, q8⟩ | ⟨q9, q8⟩; exact c_38 q9.symm; exact c_32 q9.symm; exact c_35 q9.symm; exact absurd q8 (by decide); exact absurd q8 (by decide)⟩, by rw [htQ]⟩) (fun q hq => absurd hq List.not_mem_nil) dX3_isOfKind_37
        · skip
          refine lv_iconst (v := 1) hx hb dX3_isOfKind_22 (by decide) ?_
          rw [hQ]
          exact W.zret (v := 1) hx hb hr rfl (fun tQ htQ hWQ => ⟨1, rfl, Or.inl ⟨rfl, by rw [← c_38]; decide⟩, by rw [htQ]⟩) (fun q hq => absurd hq List.not_mem_nil) dX3_isOfKind_23
      · skip
        refine lv_iconst (v := 1) hx hb dX3_isOfKind_22 (by decide) ?_
        rw [hQ]
        exact W.zret (v := 1) hx hb hr rfl (fun tQ htQ hWQ => ⟨1, rfl, Or.inl ⟨rfl, by rw [← c_35]; decide⟩, by rw [htQ]⟩) (fun q hq => absurd hq List.not_mem_nil) dX3_isOfKind_23
    · skip
      refine lv_iconst (v := 1) hx hb dX3_isOfKind_22 (by decide) ?_
      rw [hQ]
      exact W.zret (v := 1) hx hb hr rfl (fun tQ htQ hWQ => ⟨1, rfl, Or.inl ⟨rfl, by rw [← c_32]; decide⟩, by rw [htQ]⟩) (fun q hq => absurd hq List.not_mem_nil) dX3_isOfKind_23
  · skip
    refine lv_aload_n hx hb dX3_isOfKind_0 rfl (lv_at hl 0 rfl) ?_
    refine va_get (D := (dC, dI)) (ci := 9) (v := .int 5) (C := RX7) (T := TX7) (N := 4) hx hb hts kc_isOfKind_X7_1 hown hZ.2.1 (hZ.P hS) 0 rfl rfl 0 (by decide) (hts (.fieldLink RX3 9 "MistHeaps$Heap" "kind" "I") kc_isOfKind_X7_0) (fun _ h9 => h9) rfl dX3_isOfKind_1 ?_
    refine lv_istore_n (lv' := [(2, .int 5), (0, .ref a0), (1, .int x)]) hx hb dX3_isOfKind_4 rfl hl (by decide) rfl (fun ls hl => ?_)
    refine lv_iconst (v := 0) hx hb dX3_isOfKind_5 (by decide) ?_
    refine lv_istore_n (lv' := [(3, .int 0), (2, .int 5), (0, .ref a0), (1, .int x)]) hx hb dX3_isOfKind_6 rfl hl (by decide) rfl (fun ls hl => ?_)
    refine lv_iload_n hx hb dX3_isOfKind_7 rfl (lv_at hl 0 rfl) ?_
    refine lv_bipush (v := 7) hx hb dX3_isOfKind_8 (by decide) ?_
    refine lv_icmp_ge (tgt := 36) hx hb dX3_isOfKind_10 (by decide) (fun c_41 => absurd c_41 (by decide)) (fun _ => ?_)
    refine lv_iload_n hx hb dX3_isOfKind_13 rfl (lv_at hl 1 rfl) ?_
    refine lv_if_lt (tgt := 36) hx hb dX3_isOfKind_14 (by decide) (fun c_42 => absurd c_42 (by decide)) (fun _ => ?_)
    refine lv_iload_n hx hb dX3_isOfKind_17 rfl (lv_at hl 1 rfl) ?_
    refine lv_iload_n hx hb dX3_isOfKind_18 rfl (lv_at hl 3 rfl) ?_
    refine lv_icmp_ne (tgt := 24) hx hb dX3_isOfKind_19 (by decide) (fun c_43 => ?_) (fun c_43 => ?_)
    · skip
      refine va_getsN (C := "MistHeaps") (n := "KIND_ABOVE") (d := "[I") (v := .ref kA) hx hb hN_.2.1 hS hown (va_Nw.use rfl (hN_.1 (.fieldLinkNest RX3 24 "MistHeaps" "KIND_ABOVE" "[I" "MistHeaps") (by decide +kernel))) (fun _ h9 => h9) dX3_isOfKind_24 ?_
      refine lv_iload_n hx hb dX3_isOfKind_27 rfl (lv_at hl 1 rfl) ?_
      refine va_ti (v := .int 2) hx hb hN_.2.2 hS (vp_in_nI (n := 5) (N := 7) (by omega) (by omega)) rfl dX3_isOfKind_28 ?_
      refine lv_istore_n (lv' := [(2, .int 2), (3, .int 0), (0, .ref a0), (1, .int x)]) hx hb dX3_isOfKind_29 rfl hl (by decide) rfl (fun ls hl => ?_)
      refine lv_iinc (v := 1) (lv' := [(3, .int 1), (2, .int 2), (0, .ref a0), (1, .int x)]) hx hb dX3_isOfKind_30 hl (k := 1) rfl (by decide) (by decide) rfl (fun ls hl => ?_)
      refine lv_goto (tgt := 7) hx hb dX3_isOfKind_33 (by decide) ?_
      refine lv_iload_n hx hb dX3_isOfKind_7 rfl (lv_at hl 0 rfl) ?_
      refine lv_bipush (v := 7) hx hb dX3_isOfKind_8 (by decide) ?_
      refine lv_icmp_ge (tgt := 36) hx hb dX3_isOfKind_10 (by decide) (fun c_44 => absurd c_44 (by decide)) (fun _ => ?_)
      refine lv_iload_n hx hb dX3_isOfKind_13 rfl (lv_at hl 1 rfl) ?_
      refine lv_if_lt (tgt := 36) hx hb dX3_isOfKind_14 (by decide) (fun c_45 => absurd c_45 (by decide)) (fun _ => ?_)
      refine lv_iload_n hx hb dX3_isOfKind_17 rfl (lv_at hl 1 rfl) ?_
      refine lv_iload_n hx hb dX3_isOfKind_18 rfl (lv_at hl 3 rfl) ?_
      refine lv_icmp_ne (tgt := 24) hx hb dX3_isOfKind_19 (by decide) (fun c_46 => ?_) (fun c_46 => ?_)
      · skip
        refine va_getsN (C := "MistHeaps") (n := "KIND_ABOVE") (d := "[I") (v := .ref kA) hx hb hN_.2.1 hS hown (va_Nw.use rfl (hN_.1 (.fieldLinkNest RX3 24 "MistHeaps" "KIND_ABOVE" "[I" "MistHeaps") (by decide +kernel))) (fun _ h9 => h9) dX3_isOfKind_24 ?_
        refine lv_iload_n hx hb dX3_isOfKind_27 rfl (lv_at hl 1 rfl) ?_
        refine va_ti (v := .int 0) hx hb hN_.2.2 hS (vp_in_nI (n := 2) (N := 7) (by omega) (by omega)) rfl dX3_isOfKind_28 ?_
        refine lv_istore_n (lv' := [(2, .int 0), (3, .int 1), (0, .ref a0), (1, .int x)]) hx hb dX3_isOfKind_29 rfl hl (by decide) rfl (fun ls hl => ?_)
        refine lv_iinc (v := 2) (lv' := [(3, .int 2), (2, .int 0), (0, .ref a0), (1, .int x)]) hx hb dX3_isOfKind_30 hl (k := 1) rfl (by decide) (by decide) rfl (fun ls hl => ?_)
        refine lv_goto (tgt := 7) hx hb dX3_isOfKind_33 (by decide) ?_
        refine lv_iload_n hx hb dX3_isOfKind_7 rfl (lv_at hl 0 rfl) ?_
        refine lv_bipush (v := 7) hx hb dX3_isOfKind_8 (by decide) ?_
        refine lv_icmp_ge (tgt := 36) hx hb dX3_isOfKind_10 (by decide) (fun c_47 => absurd c_47 (by decide)) (fun _ => ?_)
        refine lv_iload_n hx hb dX3_isOfKind_13 rfl (lv_at hl 1 rfl) ?_
        refine lv_if_lt (tgt := 36) hx hb dX3_isOfKind_14 (by decide) (fun c_48 => absurd c_48 (by decide)) (fun _ => ?_)
        refine lv_iload_n hx hb dX3_isOfKind_17 rfl (lv_at hl 1 rfl) ?_
        refine lv_iload_n hx hb dX3_isOfKind_18 rfl (lv_at hl 3 rfl) ?_
        refine lv_icmp_ne (tgt := 24) hx hb dX3_isOfKind_19 (by decide) (fun c_49 => ?_) (fun c_49 => ?_)
        · skip
          refine va_getsN (C := "MistHeaps") (n := "KIND_ABOVE") (d := "[I") (v := .ref kA) hx hb hN_.2.1 hS hown (va_Nw.use rfl (hN_.1 (.fieldLinkNest RX3 24 "MistHeaps" "KIND_ABOVE" "[I" "MistHeaps") (by decide +kernel))) (fun _ h9 => h9) dX3_isOfKind_24 ?_
          refine lv_iload_n hx hb dX3_isOfKind_27 rfl (lv_at hl 1 rfl) ?_
          refine va_ti (v := .int (-1)) hx hb hN_.2.2 hS (vp_in_nI (n := 0) (N := 7) (by omega) (by omega)) rfl dX3_isOfKind_28 ?_
          refine lv_istore_n (lv' := [(2, .int (-1)), (3, .int 2), (0, .ref a0), (1, .int x)]) hx hb dX3_isOfKind_29 rfl hl (by decide) rfl (fun ls hl => ?_)
          refine lv_iinc (v := 3) (lv' := [(3, .int 3), (2, .int (-1)), (0, .ref a0), (1, .int x)]) hx hb dX3_isOfKind_30 hl (k := 1) rfl (by decide) (by decide) rfl (fun ls hl => ?_)
          refine lv_goto (tgt := 7) hx hb dX3_isOfKind_33 (by decide) ?_
          refine lv_iload_n hx hb dX3_isOfKind_7 rfl (lv_at hl 0 rfl) ?_
          refine lv_bipush (v := 7) hx hb dX3_isOfKind_8 (by decide) ?_
          refine lv_icmp_ge (tgt := 36) hx hb dX3_isOfKind_10 (by decide) (fun c_50 => absurd c_50 (by decide)) (fun _ => ?_)
          refine lv_iload_n hx hb dX3_isOfKind_13 rfl (lv_at hl 1 rfl) ?_
          refine lv_if_lt (tgt := 36) hx hb dX3_isOfKind_14 (by decide) (fun _ => ?_) (fun c_51 => absurd c_51 (by decide))
          refine lv_iconst (v := 0) hx hb dX3_isOfKind_36 (by decide) ?_
          rw [hQ]
          exact W.zret (v := 0) hx hb hr rfl (fun tQ htQ hWQ => ⟨0, rfl, Or.inr ⟨rfl, fun q => by rcases q with q9 | q9 | ⟨q9, q8⟩ | ⟨q9, q8⟩ | ⟨q9, q8⟩; exact c_49 q9.symm; exact c_43 q9.symm; exact absurd q8 (by decide); exact c_46 q9.symm; exact absurd q8 (by decide)⟩, by rw [htQ]⟩) (fun q hq => absurd hq List.not_mem_nil) dX3_isOfKind_37
        · skip
          refine lv_iconst (v := 1) hx hb dX3_isOfKind_22 (by decide) ?_
          rw [hQ]
          exact W.zret (v := 1) hx hb hr rfl (fun tQ htQ hWQ => ⟨1, rfl, Or.inl ⟨rfl, by rw [← c_49]; decide⟩, by rw [htQ]⟩) (fun q hq => absurd hq List.not_mem_nil) dX3_isOfKind_23
      · skip
        refine lv_iconst (v := 1) hx hb dX3_isOfKind_22 (by decide) ?_
        rw [hQ]
        exact W.zret (v := 1) hx hb hr rfl (fun tQ htQ hWQ => ⟨1, rfl, Or.inl ⟨rfl, by rw [← c_46]; decide⟩, by rw [htQ]⟩) (fun q hq => absurd hq List.not_mem_nil) dX3_isOfKind_23
    · skip
      refine lv_iconst (v := 1) hx hb dX3_isOfKind_22 (by decide) ?_
      rw [hQ]
      exact W.zret (v := 1) hx hb hr rfl (fun tQ htQ hWQ => ⟨1, rfl, Or.inl ⟨rfl, by rw [← c_43]; decide⟩, by rw [htQ]⟩) (fun q hq => absurd hq List.not_mem_nil) dX3_isOfKind_23
  · skip
    refine lv_aload_n hx hb dX3_isOfKind_0 rfl (lv_at hl 0 rfl) ?_
    refine va_get (D := (dC, dI)) (ci := 9) (v := .int 6) (C := RX7) (T := TX7) (N := 4) hx hb hts kc_isOfKind_X7_1 hown hZ.2.1 (hZ.P hS) 0 rfl rfl 0 (by decide) (hts (.fieldLink RX3 9 "MistHeaps$Heap" "kind" "I") kc_isOfKind_X7_0) (fun _ h9 => h9) rfl dX3_isOfKind_1 ?_
    refine lv_istore_n (lv' := [(2, .int 6), (0, .ref a0), (1, .int x)]) hx hb dX3_isOfKind_4 rfl hl (by decide) rfl (fun ls hl => ?_)
    refine lv_iconst (v := 0) hx hb dX3_isOfKind_5 (by decide) ?_
    refine lv_istore_n (lv' := [(3, .int 0), (2, .int 6), (0, .ref a0), (1, .int x)]) hx hb dX3_isOfKind_6 rfl hl (by decide) rfl (fun ls hl => ?_)
    refine lv_iload_n hx hb dX3_isOfKind_7 rfl (lv_at hl 0 rfl) ?_
    refine lv_bipush (v := 7) hx hb dX3_isOfKind_8 (by decide) ?_
    refine lv_icmp_ge (tgt := 36) hx hb dX3_isOfKind_10 (by decide) (fun c_52 => absurd c_52 (by decide)) (fun _ => ?_)
    refine lv_iload_n hx hb dX3_isOfKind_13 rfl (lv_at hl 1 rfl) ?_
    refine lv_if_lt (tgt := 36) hx hb dX3_isOfKind_14 (by decide) (fun c_53 => absurd c_53 (by decide)) (fun _ => ?_)
    refine lv_iload_n hx hb dX3_isOfKind_17 rfl (lv_at hl 1 rfl) ?_
    refine lv_iload_n hx hb dX3_isOfKind_18 rfl (lv_at hl 3 rfl) ?_
    refine lv_icmp_ne (tgt := 24) hx hb dX3_isOfKind_19 (by decide) (fun c_54 => ?_) (fun c_54 => ?_)
    · skip
      refine va_getsN (C := "MistHeaps") (n := "KIND_ABOVE") (d := "[I") (v := .ref kA) hx hb hN_.2.1 hS hown (va_Nw.use rfl (hN_.1 (.fieldLinkNest RX3 24 "MistHeaps" "KIND_ABOVE" "[I" "MistHeaps") (by decide +kernel))) (fun _ h9 => h9) dX3_isOfKind_24 ?_
      refine lv_iload_n hx hb dX3_isOfKind_27 rfl (lv_at hl 1 rfl) ?_
      refine va_ti (v := .int 3) hx hb hN_.2.2 hS (vp_in_nI (n := 6) (N := 7) (by omega) (by omega)) rfl dX3_isOfKind_28 ?_
      refine lv_istore_n (lv' := [(2, .int 3), (3, .int 0), (0, .ref a0), (1, .int x)]) hx hb dX3_isOfKind_29 rfl hl (by decide) rfl (fun ls hl => ?_)
      refine lv_iinc (v := 1) (lv' := [(3, .int 1), (2, .int 3), (0, .ref a0), (1, .int x)]) hx hb dX3_isOfKind_30 hl (k := 1) rfl (by decide) (by decide) rfl (fun ls hl => ?_)
      refine lv_goto (tgt := 7) hx hb dX3_isOfKind_33 (by decide) ?_
      refine lv_iload_n hx hb dX3_isOfKind_7 rfl (lv_at hl 0 rfl) ?_
      refine lv_bipush (v := 7) hx hb dX3_isOfKind_8 (by decide) ?_
      refine lv_icmp_ge (tgt := 36) hx hb dX3_isOfKind_10 (by decide) (fun c_55 => absurd c_55 (by decide)) (fun _ => ?_)
      refine lv_iload_n hx hb dX3_isOfKind_13 rfl (lv_at hl 1 rfl) ?_
      refine lv_if_lt (tgt := 36) hx hb dX3_isOfKind_14 (by decide) (fun c_56 => absurd c_56 (by decide)) (fun _ => ?_)
      refine lv_iload_n hx hb dX3_isOfKind_17 rfl (lv_at hl 1 rfl) ?_
      refine lv_iload_n hx hb dX3_isOfKind_18 rfl (lv_at hl 3 rfl) ?_
      refine lv_icmp_ne (tgt := 24) hx hb dX3_isOfKind_19 (by decide) (fun c_57 => ?_) (fun c_57 => ?_)
      · skip
        refine va_getsN (C := "MistHeaps") (n := "KIND_ABOVE") (d := "[I") (v := .ref kA) hx hb hN_.2.1 hS hown (va_Nw.use rfl (hN_.1 (.fieldLinkNest RX3 24 "MistHeaps" "KIND_ABOVE" "[I" "MistHeaps") (by decide +kernel))) (fun _ h9 => h9) dX3_isOfKind_24 ?_
        refine lv_iload_n hx hb dX3_isOfKind_27 rfl (lv_at hl 1 rfl) ?_
        refine va_ti (v := .int 0) hx hb hN_.2.2 hS (vp_in_nI (n := 3) (N := 7) (by omega) (by omega)) rfl dX3_isOfKind_28 ?_
        refine lv_istore_n (lv' := [(2, .int 0), (3, .int 1), (0, .ref a0), (1, .int x)]) hx hb dX3_isOfKind_29 rfl hl (by decide) rfl (fun ls hl => ?_)
        refine lv_iinc (v := 2) (lv' := [(3, .int 2), (2, .int 0), (0, .ref a0), (1, .int x)]) hx hb dX3_isOfKind_30 hl (k := 1) rfl (by decide) (by decide) rfl (fun ls hl => ?_)
        refine lv_goto (tgt := 7) hx hb dX3_isOfKind_33 (by decide) ?_
        refine lv_iload_n hx hb dX3_isOfKind_7 rfl (lv_at hl 0 rfl) ?_
        refine lv_bipush (v := 7) hx hb dX3_isOfKind_8 (by decide) ?_
        refine lv_icmp_ge (tgt := 36) hx hb dX3_isOfKind_10 (by decide) (fun c_58 => absurd c_58 (by decide)) (fun _ => ?_)
        refine lv_iload_n hx hb dX3_isOfKind_13 rfl (lv_at hl 1 rfl) ?_
        refine lv_if_lt (tgt := 36) hx hb dX3_isOfKind_14 (by decide) (fun c_59 => absurd c_59 (by decide)) (fun _ => ?_)
        refine lv_iload_n hx hb dX3_isOfKind_17 rfl (lv_at hl 1 rfl) ?_
        refine lv_iload_n hx hb dX3_isOfKind_18 rfl (lv_at hl 3 rfl) ?_
        refine lv_icmp_ne (tgt := 24) hx hb dX3_isOfKind_19 (by decide) (fun c_60 => ?_) (fun c_60 => ?_)
        · skip
          refine va_getsN (C := "MistHeaps") (n := "KIND_ABOVE") (d := "[I") (v := .ref kA) hx hb hN_.2.1 hS hown (va_Nw.use rfl (hN_.1 (.fieldLinkNest RX3 24 "MistHeaps" "KIND_ABOVE" "[I" "MistHeaps") (by decide +kernel))) (fun _ h9 => h9) dX3_isOfKind_24 ?_
          refine lv_iload_n hx hb dX3_isOfKind_27 rfl (lv_at hl 1 rfl) ?_
          refine va_ti (v := .int (-1)) hx hb hN_.2.2 hS (vp_in_nI (n := 0) (N := 7) (by omega) (by omega)) rfl dX3_isOfKind_28 ?_
          refine lv_istore_n (lv' := [(2, .int (-1)), (3, .int 2), (0, .ref a0), (1, .int x)]) hx hb dX3_isOfKind_29 rfl hl (by decide) rfl (fun ls hl => ?_)
          refine lv_iinc (v := 3) (lv' := [(3, .int 3), (2, .int (-1)), (0, .ref a0), (1, .int x)]) hx hb dX3_isOfKind_30 hl (k := 1) rfl (by decide) (by decide) rfl (fun ls hl => ?_)
          refine lv_goto (tgt := 7) hx hb dX3_isOfKind_33 (by decide) ?_
          refine lv_iload_n hx hb dX3_isOfKind_7 rfl (lv_at hl 0 rfl) ?_
          refine lv_bipush (v := 7) hx hb dX3_isOfKind_8 (by decide) ?_
          refine lv_icmp_ge (tgt := 36) hx hb dX3_isOfKind_10 (by decide) (fun c_61 => absurd c_61 (by decide)) (fun _ => ?_)
          refine lv_iload_n hx hb dX3_isOfKind_13 rfl (lv_at hl 1 rfl) ?_
          refine lv_if_lt (tgt := 36) hx hb dX3_isOfKind_14 (by decide) (fun _ => ?_) (fun c_62 => absurd c_62 (by decide))
          refine lv_iconst (v := 0) hx hb dX3_isOfKind_36 (by decide) ?_
          rw [hQ]
          exact W.zret (v := 0) hx hb hr rfl (fun tQ htQ hWQ => ⟨0, rfl, Or.inr ⟨rfl, fun q => by rcases q with q9 | q9 | ⟨q9, q8⟩ | ⟨q9, q8⟩ | ⟨q9, q8⟩; exact c_60 q9.symm; exact c_54 q9.symm; exact absurd q8 (by decide); exact absurd q8 (by decide); exact c_57 q9.symm⟩, by rw [htQ]⟩) (fun q hq => absurd hq List.not_mem_nil) dX3_isOfKind_37
        · skip
          refine lv_iconst (v := 1) hx hb dX3_isOfKind_22 (by decide) ?_
          rw [hQ]
          exact W.zret (v := 1) hx hb hr rfl (fun tQ htQ hWQ => ⟨1, rfl, Or.inl ⟨rfl, by rw [← c_60]; decide⟩, by rw [htQ]⟩) (fun q hq => absurd hq List.not_mem_nil) dX3_isOfKind_23
      · skip
        refine lv_iconst (v := 1) hx hb dX3_isOfKind_22 (by decide) ?_
        rw [hQ]
        exact W.zret (v := 1) hx hb hr rfl (fun tQ htQ hWQ => ⟨1, rfl, Or.inl ⟨rfl, by rw [← c_57]; decide⟩, by rw [htQ]⟩) (fun q hq => absurd hq List.not_mem_nil) dX3_isOfKind_23
    · skip
      refine lv_iconst (v := 1) hx hb dX3_isOfKind_22 (by decide) ?_
      rw [hQ]
      exact W.zret (v := 1) hx hb hr rfl (fun tQ htQ hWQ => ⟨1, rfl, Or.inl ⟨rfl, by rw [← c_54]; decide⟩, by rw [htQ]⟩) (fun q hq => absurd hq List.not_mem_nil) dX3_isOfKind_23

theorem kc_xAs_0 : ∀ w ∈ wsX110, w ∈ wsX11_as := fun w h => List.mem_cons_of_mem _ (gin_wsX110 w h)
theorem kc_xAs_1 : (.fieldLink RX11 14 "MistHeaps" "scene" "LMistHeaps$Scene;" : Cond) ∈ wsX11_as := kc_of 328 rfl rfl rfl
theorem kc_xAs_2 : (.fieldLink RX11 121 "MistHeaps$Heap" "v" "I" : Cond) ∈ wsX11_as := kc_of 245 rfl rfl rfl
theorem kc_xAs_3 : ∀ C ∈ hpC, ∀ w ∈ u_ws C.1 C.2.1 C.2.2, w ∈ wsX11_as := by decide +kernel
set_option maxHeartbeats 4000000 in
set_option maxRecDepth 100000 in
theorem c_xAs (l : Launch) (dC : Nat → ClassId) (dI : Nat → Nat → Nat) (kA : Nat)  (h0 : Nat) (sc : Nat) (kp : Nat) (bl : Nat) (go : Nat) (ch : Nat) (bo : Nat) (aTp : Nat) (aHl : Nat) (aHs : Nat) (aWk : Nat) (aBk : Nat) (aFc : Nat) (ts : Nat) (nh : Nat) (n : Nat) (wz : Nat) (bz : Nat) (mi : Int32) (sn : Int32) (ik : Int32) (x : Int32) (y : Int32) (ed : Int64) (cHs : ClassId) (yk : Nat → Int32) (yv : Nat → Int32) (yc : Nat → Int32) (fHs : Nat → Option Nat) (yi : Nat → Nat) (ya : Nat → Nat) (zhs : ∀ k0, k0 < n → fHs k0 = some (ya k0)) (hn8 : n ≤ 8) (zyk : ∀ k0, k0 < n → ∃ v0 : Nat, v0 < 7 ∧ yk k0 = nI v0) : Met l yX11_as wsX11_as ({ frames := 1, cells := 0, slots := 0, locals := 23 } : Room) (va_Pc [.ref h0, .int x, .int y] (fun U => va_P (dC, dI) vwCl [(zo13rrirrrr h0 sc kp ik bl go ch bo), (zo10ririliiriririr sc aTp (nI ts) aHl (nI nh) ed mi sn aHs (nI n) aWk (nI wz) aBk (nI bz) aFc), (zaR aHs cHs 8 fHs)] U.heap ∧ va_K (dC, dI) vwCl [(cHs, .object "MistHeaps$Heap")] U ∧ Gn kA (fun _ => False) U ∧ Hs dC dI n yi ya yk yv yc (fun _ => False) U)) (vp_Si (fun r => r = asR n yk yv x y)) 0 0 (fun _ => False) := by
  refine met_ofQ (cc := cX11_as) (maxL := 4) (ret := (some .int)) (by decide) rfl ?_
  intro p e s m args below meth c s₁ Q B hml hv hQ
  obtain ⟨rfl, hP, hK, hN_, hH_⟩ := hv
  have hx := B.exec
  have hb := B.bytes
  have hr := B.returns
  have hts := atoms_spec (ws := wsX11_as) B.pre
  have hown : s.vm.findClass RX11 = some m.cls := findClass_of_methodNamed B.named
  have hlocks := B.notSynchronized
  obtain ⟨A, hAe⟩ : ∃ A : Nat → Prop, A = fun _ => False := ⟨_, rfl⟩
  rw [← hAe] at hQ hN_ hH_
  have hS : va_S A s.heap s.heap [] := va_S.rf
  have hl := lv_entry [.ref h0, .int x, .int y] (n := 4) (Nat.le_of_ble_eq_true rfl)
  rw [lg_entry_eq]
  generalize (lg_sl [.ref h0, .int x, .int y] ++ List.replicate (4 - (lg_sl [.ref h0, .int x, .int y]).length) Slot.unset).toArray = ls at hl ⊢
  generalize hag : ([.ref h0, .int x, .int y] : List Value).toArray = args at hts hQ ⊢
  have hl : lv_has ls 4 [(0, .ref h0), (1, .int x), (2, .int y)] := hl
  refine lv_aload_n hx hb dX11_as_0 rfl (lv_at hl 0 rfl) ?_
  refine va_get (D := (dC, dI)) (ci := 13) (v := .ref sc) (C := RX11) (T := TX11) (N := 7) hx hb hts kc_xAs_0 hown hK hP 0 rfl rfl 0 (by decide) (hts (.fieldLink RX11 14 "MistHeaps" "scene" "LMistHeaps$Scene;") kc_xAs_1) (fun _ h9 => h9) rfl dX11_as_1 ?_
  refine lv_iload_n hx hb dX11_as_4 rfl (lv_at hl 1 rfl) ?_
  have hPc := hP.sub (ws' := [(zo10ririliiriririr sc aTp (nI ts) aHl (nI nh) ed mi sn aHs (nI n) aWk (nI wz) aBk (nI bz) aFc), (zaR aHs cHs 8 fHs)]) [1, 2] rfl
  have hKc := hK.sub (tys' := [(cHs, .object "MistHeaps$Heap")]) [0] rfl
  refine va_csq (va_runV (As := [.int x]) (rest := []) ⟨hx, hb, hml, hown, hts⟩ (c_heapAt l dC dI sc aTp aHl aHs aWk aBk aFc ts nh n wz bz mi sn x ed cHs fHs ya (zhs) (hn8)) (cwV 1 hts gX11_as_X8_heapAt rfl rfl rfl hd_yX8_heapAt ⟨Nat.le_of_ble_eq_true rfl, Nat.le_of_ble_eq_true rfl⟩) ⟨fun a U g mk q => by obtain ⟨q0, qP, qK⟩ := q; exact ⟨q0, qP, va_K.moved (u := U) (U := U.calling g mk a) (Vm.Alike.refl U.vm) qK⟩, va_recv hK hP (ci := 10) (q := (RX8, TX8, 14)) (q0 := 1) rfl rfl, fun U hU hW => ⟨rfl, by rw [hU]; exact hPc, va_K.moved hW.alike hKc⟩⟩ rfl rfl hl.1 rfl (lv_room (Nat.le_of_ble_eq_true rfl)) dX11_as_5 ⟨Nat.le_of_ble_eq_true rfl, Nat.le_of_ble_eq_true rfl⟩).run (fun r_1 hw_2 => ?_)
  rcases hw_2 with ⟨j_3, hj_4, rfl, rfl⟩ | ⟨rfl, h_6⟩
  · skip
    refine qq_as (v := .ref (ya j_3)) rfl ?_
    refine lv_astore_n (lv' := [(3, .ref (ya j_3)), (0, .ref h0), (1, .int (nI j_3)), (2, .int y)]) hx hb dX11_as_8 rfl hl (by decide) rfl (fun ls hl => ?_)
    refine lv_aload_n hx hb dX11_as_9 rfl (lv_at hl 0 rfl) ?_
    refine lv_ifnull hx hb dX11_as_10 ?_
    refine lv_iload_n hx hb dX11_as_13 rfl (lv_at hl 3 rfl) ?_
    refine lv_if_lt (tgt := 23) hx hb dX11_as_14 (by decide) (fun c_7 => ?_) (fun c_7 => ?_)
    · skip
      refine lv_iconst (v := (-1)) hx hb dX11_as_23 (by decide) ?_
      rw [hQ]
      exact W.iret (v := (-1)) hx hb hr (fun tQ htQ hWQ => ⟨(-1), rfl, by first | exact as_no (by assumption) | exact as_bad hn8 (by assumption) (Or.inl (by assumption)) | exact as_bad hn8 (by assumption) (Or.inr (le7_lt6 (Int32.not_lt.mp (by assumption)))), by rw [htQ]⟩) (fun q hq => absurd hq List.not_mem_nil) dX11_as_24
    · skip
      refine lv_iload_n hx hb dX11_as_17 rfl (lv_at hl 3 rfl) ?_
      refine lv_bipush (v := 7) hx hb dX11_as_18 (by decide) ?_
      refine lv_icmp_lt (tgt := 25) hx hb dX11_as_20 (by decide) (fun c_8 => ?_) (fun c_8 => ?_)
      · skip
        refine lv_aload_n hx hb dX11_as_25 rfl (lv_at hl 0 rfl) ?_
        refine lv_iload_n hx hb dX11_as_26 rfl (lv_at hl 3 rfl) ?_
        rcases (show yi j_3 = 3 ∨ yi j_3 = 5 ∨ yi j_3 = 6 ∨ yi j_3 = 8 ∨ yi j_3 = 9 ∨ yi j_3 = 11 ∨ yi j_3 = 12 from (hH_ j_3 (by omega)).1) with e_9 | e_9 | e_9 | e_9 | e_9 | e_9 | e_9
        · skip
          have hY : Fz dC dI [(zo3iiii (ya j_3) (yk j_3) (nI j_3) (yv j_3) (yc j_3))] [] A s := by have h9 := (hH_ j_3 (by omega)).2; rw [hpE, e_9] at h9; exact h9
          refine vp_callSi (va_runU (As := [.int y]) (rest := []) ⟨hx, hb, hml, hown, hts⟩ (c_isOfKind_X1 l dC dI kA  j_3 (yk j_3) (yv j_3) (yc j_3) y (ya j_3) (zyk j_3 (by omega))) (va_cwU 1 hts gX11_as_X3_isOfKind_u256X1 rfl rfl rfl rfl (by decide +kernel) ⟨Nat.le_of_ble_eq_true rfl, Nat.le_of_ble_eq_true rfl⟩) ⟨fun a U g mk q => by obtain ⟨q0, qhN_, qhZ⟩ := q; exact ⟨q0, qhN_.same rfl rfl, qhZ.same rfl rfl⟩, va_recv hY.2.1 (hY.P hS) (ci := 3) (q := (RX1, TX1, 4)) (q0 := 0) rfl rfl, fun U hU hW => ⟨rfl, hN_.callF hS hU hW, hY.callF hS hU hW⟩⟩ rfl rfl hl.1 rfl (lv_room (Nat.le_of_ble_eq_true rfl)) dX11_as_27 ⟨Nat.le_of_ble_eq_true rfl, Nat.le_of_ble_eq_true rfl⟩).run (fun r_10 hw_11 => ?_)
          rcases hw_11 with ⟨rfl, hU_12⟩ | ⟨rfl, hU_12⟩
          · skip
            refine lv_if_eq (tgt := 40) hx hb dX11_as_30 (by decide) (fun c_13 => absurd c_13 (by decide)) (fun _ => ?_)
            refine lv_aload_n hx hb dX11_as_33 rfl (lv_at hl 0 rfl) ?_
            refine va_hget2 (v := .int (yv j_3)) hx hb hts kc_xAs_3 hown (hH_ j_3 (by omega)).1 (hH_ j_3 (by omega)).2 hS (hts (.fieldLink RX11 121 "MistHeaps$Heap" "v" "I") kc_xAs_2) dX11_as_34 rfl ?_
            refine lv_goto (tgt := 42) hx hb dX11_as_37 (by decide) ?_
            rw [hQ]
            exact W.iret (v := yv j_3) hx hb hr (fun tQ htQ hWQ => ⟨yv j_3, rfl, as_yes hn8 (by assumption) (by assumption) (fun q => absurd (lt6_le7 q) (Int32.not_le.mpr (by assumption))) (by assumption), by rw [htQ]⟩) (fun q hq => absurd hq List.not_mem_nil) dX11_as_42
          · skip
            refine lv_if_eq (tgt := 40) hx hb dX11_as_30 (by decide) (fun _ => ?_) (fun c_14 => absurd c_14 (by decide))
            refine lv_bipush (v := (-6)) hx hb dX11_as_40 (by decide) ?_
            rw [hQ]
            exact W.iret (v := (-6)) hx hb hr (fun tQ htQ hWQ => ⟨(-6), rfl, as_not hn8 (by assumption) (by assumption) (fun q => absurd (lt6_le7 q) (Int32.not_le.mpr (by assumption))) (by assumption), by rw [htQ]⟩) (fun q hq => absurd hq List.not_mem_nil) dX11_as_42
        · skip
          have hY : Fz dC dI [(zo5iiii (ya j_3) (yk j_3) (nI j_3) (yv j_3) (yc j_3))] [] A s := by have h9 := (hH_ j_3 (by omega)).2; rw [hpE, e_9] at h9; exact h9
          refine vp_callSi (va_runV (As := [.int y]) (rest := []) ⟨hx, hb, hml, hown, hts⟩ (c_isOfKind_X3 l dC dI kA  j_3 (yk j_3) (yv j_3) (yc j_3) y (ya j_3) (zyk j_3 (by omega))) (cwV 1 hts gX11_as_X3_isOfKind rfl rfl rfl hd_yX3_isOfKind ⟨Nat.le_of_ble_eq_true rfl, Nat.le_of_ble_eq_true rfl⟩) ⟨fun a U g mk q => by obtain ⟨q0, qhN_, qhZ⟩ := q; exact ⟨q0, qhN_.same rfl rfl, qhZ.same rfl rfl⟩, va_recv hY.2.1 (hY.P hS) (ci := 5) (q := (RX3, TX3, 4)) (q0 := 0) rfl rfl, fun U hU hW => ⟨rfl, hN_.callF hS hU hW, hY.callF hS hU hW⟩⟩ rfl rfl hl.1 rfl (lv_room (Nat.le_of_ble_eq_true rfl)) dX11_as_27 ⟨Nat.le_of_ble_eq_true rfl, Nat.le_of_ble_eq_true rfl⟩).run (fun r_15 hw_16 => ?_)
          rcases hw_16 with ⟨rfl, hU_17⟩ | ⟨rfl, hU_17⟩
          · skip
            refine lv_if_eq (tgt := 40) hx hb dX11_as_30 (by decide) (fun c_18 => absurd c_18 (by decide)) (fun _ => ?_)
            refine lv_aload_n hx hb dX11_as_33 rfl (lv_at hl 0 rfl) ?_
            refine va_hget2 (v := .int (yv j_3)) hx hb hts kc_xAs_3 hown (hH_ j_3 (by omega)).1 (hH_ j_3 (by omega)).2 hS (hts (.fieldLink RX11 121 "MistHeaps$Heap" "v" "I") kc_xAs_2) dX11_as_34 rfl ?_
            refine lv_goto (tgt := 42) hx hb dX11_as_37 (by decide) ?_
            rw [hQ]
            exact W.iret (v := yv j_3) hx hb hr (fun tQ htQ hWQ => ⟨yv j_3, rfl, as_yes hn8 (by assumption) (by assumption) (fun q => absurd (lt6_le7 q) (Int32.not_le.mpr (by assumption))) (by assumption), by rw [htQ]⟩) (fun q hq => absurd hq List.not_mem_nil) dX11_as_42
          · skip
            refine lv_if_eq (tgt := 40) hx hb dX11_as_30 (by decide) (fun _ => ?_) (fun c_19 => absurd c_19 (by decide))
            refine lv_bipush (v := (-6)) hx hb dX11_as_40 (by decide) ?_
            rw [hQ]
            exact W.iret (v := (-6)) hx hb hr (fun tQ htQ hWQ => ⟨(-6), rfl, as_not hn8 (by assumption) (by assumption) (fun q => absurd (lt6_le7 q) (Int32.not_le.mpr (by assumption))) (by assumption), by rw [htQ]⟩) (fun q hq => absurd hq List.not_mem_nil) dX11_as_42
        · skip
          have hY : Fz dC dI [(zo6iiii (ya j_3) (yk j_3) (nI j_3) (yv j_3) (yc j_3))] [] A s := by have h9 := (hH_ j_3 (by omega)).2; rw [hpE, e_9] at h9; exact h9
          refine vp_callSi (va_runU (As := [.int y]) (rest := []) ⟨hx, hb, hml, hown, hts⟩ (c_isOfKind_X4 l dC dI kA  j_3 (yk j_3) (yv j_3) (yc j_3) y (ya j_3) (zyk j_3 (by omega))) (va_cwU 1 hts gX11_as_X3_isOfKind_u256X4 rfl rfl rfl rfl (by decide +kernel) ⟨Nat.le_of_ble_eq_true rfl, Nat.le_of_ble_eq_true rfl⟩) ⟨fun a U g mk q => by obtain ⟨q0, qhN_, qhZ⟩ := q; exact ⟨q0, qhN_.same rfl rfl, qhZ.same rfl rfl⟩, va_recv hY.2.1 (hY.P hS) (ci := 6) (q := (RX4, TX4, 4)) (q0 := 0) rfl rfl, fun U hU hW => ⟨rfl, hN_.callF hS hU hW, hY.callF hS hU hW⟩⟩ rfl rfl hl.1 rfl (lv_room (Nat.le_of_ble_eq_true rfl)) dX11_as_27 ⟨Nat.le_of_ble_eq_true rfl, Nat.le_of_ble_eq_true rfl⟩).run (fun r_20 hw_21 => ?_)
          rcases hw_21 with ⟨rfl, hU_22⟩ | ⟨rfl, hU_22⟩
          · skip
            refine lv_if_eq (tgt := 40) hx hb dX11_as_30 (by decide) (fun c_23 => absurd c_23 (by decide)) (fun _ => ?_)
            refine lv_aload_n hx hb dX11_as_33 rfl (lv_at hl 0 rfl) ?_
            refine va_hget2 (v := .int (yv j_3)) hx hb hts kc_xAs_3 hown (hH_ j_3 (by omega)).1 (hH_ j_3 (by omega)).2 hS (hts (.fieldLink RX11 121 "MistHeaps$Heap" "v" "I") kc_xAs_2) dX11_as_34 rfl ?_
            refine lv_goto (tgt := 42) hx hb dX11_as_37 (by decide) ?_
            rw [hQ]
            exact W.iret (v := yv j_3) hx hb hr (fun tQ htQ hWQ => ⟨yv j_3, rfl, as_yes hn8 (by assumption) (by assumption) (fun q => absurd (lt6_le7 q) (Int32.not_le.mpr (by assumption))) (by assumption), by rw [htQ]⟩) (fun q hq => absurd hq List.not_mem_nil) dX11_as_42
          · skip
            refine lv_if_eq (tgt := 40) hx hb dX11_as_30 (by decide) (fun _ => ?_) (fun c_24 => absurd c_24 (by decide))
            refine lv_bipush (v := (-6)) hx hb dX11_as_40 (by decide) ?_
            rw [hQ]
            exact W.iret (v := (-6)) hx hb hr (fun tQ htQ hWQ => ⟨(-6), rfl, as_not hn8 (by assumption) (by assumption) (fun q => absurd (lt6_le7 q) (Int32.not_le.mpr (by assumption))) (by assumption), by rw [htQ]⟩) (fun q hq => absurd hq List.not_mem_nil) dX11_as_42
        · skip
          have hY : Fz dC dI [(zo8iiii (ya j_3) (yk j_3) (nI j_3) (yv j_3) (yc j_3))] [] A s := by have h9 := (hH_ j_3 (by omega)).2; rw [hpE, e_9] at h9; exact h9
          refine vp_callSi (va_runU (As := [.int y]) (rest := []) ⟨hx, hb, hml, hown, hts⟩ (c_isOfKind_X6 l dC dI kA  j_3 (yk j_3) (yv j_3) (yc j_3) y (ya j_3) (zyk j_3 (by omega))) (va_cwU 1 hts gX11_as_X3_isOfKind_u256X6 rfl rfl rfl rfl (by decide +kernel) ⟨Nat.le_of_ble_eq_true rfl, Nat.le_of_ble_eq_true rfl⟩) ⟨fun a U g mk q => by obtain ⟨q0, qhN_, qhZ⟩ := q; exact ⟨q0, qhN_.same rfl rfl, qhZ.same rfl rfl⟩, va_recv hY.2.1 (hY.P hS) (ci := 8) (q := (RX6, TX6, 4)) (q0 := 0) rfl rfl, fun U hU hW => ⟨rfl, hN_.callF hS hU hW, hY.callF hS hU hW⟩⟩ rfl rfl hl.1 rfl (lv_room (Nat.le_of_ble_eq_true rfl)) dX11_as_27 ⟨Nat.le_of_ble_eq_true rfl, Nat.le_of_ble_eq_true rfl⟩).run (fun r_25 hw_26 => ?_)
          rcases hw_26 with ⟨rfl, hU_27⟩ | ⟨rfl, hU_27⟩
          · skip
            refine lv_if_eq (tgt := 40) hx hb dX11_as_30 (by decide) (fun c_28 => absurd c_28 (by decide)) (fun _ => ?_)
            refine lv_aload_n hx hb dX11_as_33 rfl (lv_at hl 0 rfl) ?_
            refine va_hget2 (v := .int (yv j_3)) hx hb hts kc_xAs_3 hown (hH_ j_3 (by omega)).1 (hH_ j_3 (by omega)).2 hS (hts (.fieldLink RX11 121 "MistHeaps$Heap" "v" "I") kc_xAs_2) dX11_as_34 rfl ?_
            refine lv_goto (tgt := 42) hx hb dX11_as_37 (by decide) ?_
            rw [hQ]
            exact W.iret (v := yv j_3) hx hb hr (fun tQ htQ hWQ => ⟨yv j_3, rfl, as_yes hn8 (by assumption) (by assumption) (fun q => absurd (lt6_le7 q) (Int32.not_le.mpr (by assumption))) (by assumption), by rw [htQ]⟩) (fun q hq => absurd hq List.not_mem_nil) dX11_as_42
          · skip
            refine lv_if_eq (tgt := 40) hx hb dX11_as_30 (by decide) (fun _ => ?_) (fun c_29 => absurd c_29 (by decide))
            refine lv_bipush (v := (-6)) hx hb dX11_as_40 (by decide) ?_
            rw [hQ]
            exact W.iret (v := (-6)) hx hb hr (fun tQ htQ hWQ => ⟨(-6), rfl, as_not hn8 (by assumption) (by assumption) (fun q => absurd (lt6_le7 q) (Int32.not_le.mpr (by assumption))) (by assumption), by rw [htQ]⟩) (fun q hq => absurd hq List.not_mem_nil) dX11_as_42
        · skip
          have hY : Fz dC dI [(zo9iiii (ya j_3) (yk j_3) (nI j_3) (yv j_3) (yc j_3))] [] A s := by have h9 := (hH_ j_3 (by omega)).2; rw [hpE, e_9] at h9; exact h9
          refine vp_callSi (va_runU (As := [.int y]) (rest := []) ⟨hx, hb, hml, hown, hts⟩ (c_isOfKind_X7 l dC dI kA  j_3 (yk j_3) (yv j_3) (yc j_3) y (ya j_3) (zyk j_3 (by omega))) (va_cwU 1 hts gX11_as_X3_isOfKind_u256X7 rfl rfl rfl rfl (by decide +kernel) ⟨Nat.le_of_ble_eq_true rfl, Nat.le_of_ble_eq_true rfl⟩) ⟨fun a U g mk q => by obtain ⟨q0, qhN_, qhZ⟩ := q; exact ⟨q0, qhN_.same rfl rfl, qhZ.same rfl rfl⟩, va_recv hY.2.1 (hY.P hS) (ci := 9) (q := (RX7, TX7, 4)) (q0 := 0) rfl rfl, fun U hU hW => ⟨rfl, hN_.callF hS hU hW, hY.callF hS hU hW⟩⟩ rfl rfl hl.1 rfl (lv_room (Nat.le_of_ble_eq_true rfl)) dX11_as_27 ⟨Nat.le_of_ble_eq_true rfl, Nat.le_of_ble_eq_true rfl⟩).run (fun r_30 hw_31 => ?_)
          rcases hw_31 with ⟨rfl, hU_32⟩ | ⟨rfl, hU_32⟩
          · skip
            refine lv_if_eq (tgt := 40) hx hb dX11_as_30 (by decide) (fun c_33 => absurd c_33 (by decide)) (fun _ => ?_)
            refine lv_aload_n hx hb dX11_as_33 rfl (lv_at hl 0 rfl) ?_
            refine va_hget2 (v := .int (yv j_3)) hx hb hts kc_xAs_3 hown (hH_ j_3 (by omega)).1 (hH_ j_3 (by omega)).2 hS (hts (.fieldLink RX11 121 "MistHeaps$Heap" "v" "I") kc_xAs_2) dX11_as_34 rfl ?_
            refine lv_goto (tgt := 42) hx hb dX11_as_37 (by decide) ?_
            rw [hQ]
            exact W.iret (v := yv j_3) hx hb hr (fun tQ htQ hWQ => ⟨yv j_3, rfl, as_yes hn8 (by assumption) (by assumption) (fun q => absurd (lt6_le7 q) (Int32.not_le.mpr (by assumption))) (by assumption), by rw [htQ]⟩) (fun q hq => absurd hq List.not_mem_nil) dX11_as_42
          · skip
            refine lv_if_eq (tgt := 40) hx hb dX11_as_30 (by decide) (fun _ => ?_) (fun c_34 => absurd c_34 (by decide))
            refine lv_bipush (v := (-6)) hx hb dX11_as_40 (by decide) ?_
            rw [hQ]
            exact W.iret (v := (-6)) hx hb hr (fun tQ htQ hWQ => ⟨(-6), rfl, as_not hn8 (by assumption) (by assumption) (fun q => absurd (lt6_le7 q) (Int32.not_le.mpr (by assumption))) (by assumption), by rw [htQ]⟩) (fun q hq => absurd hq List.not_mem_nil) dX11_as_42
        · skip
          have hY : Fz dC dI [(zo11iiii (ya j_3) (yk j_3) (nI j_3) (yv j_3) (yc j_3))] [] A s := by have h9 := (hH_ j_3 (by omega)).2; rw [hpE, e_9] at h9; exact h9
          refine vp_callSi (va_runU (As := [.int y]) (rest := []) ⟨hx, hb, hml, hown, hts⟩ (c_isOfKind_X9 l dC dI kA  j_3 (yk j_3) (yv j_3) (yc j_3) y (ya j_3) (zyk j_3 (by omega))) (va_cwU 1 hts gX11_as_X3_isOfKind_u256X9 rfl rfl rfl rfl (by decide +kernel) ⟨Nat.le_of_ble_eq_true rfl, Nat.le_of_ble_eq_true rfl⟩) ⟨fun a U g mk q => by obtain ⟨q0, qhN_, qhZ⟩ := q; exact ⟨q0, qhN_.same rfl rfl, qhZ.same rfl rfl⟩, va_recv hY.2.1 (hY.P hS) (ci := 11) (q := (RX9, TX9, 4)) (q0 := 0) rfl rfl, fun U hU hW => ⟨rfl, hN_.callF hS hU hW, hY.callF hS hU hW⟩⟩ rfl rfl hl.1 rfl (lv_room (Nat.le_of_ble_eq_true rfl)) dX11_as_27 ⟨Nat.le_of_ble_eq_true rfl, Nat.le_of_ble_eq_true rfl⟩).run (fun r_35 hw_36 => ?_)
          rcases hw_36 with ⟨rfl, hU_37⟩ | ⟨rfl, hU_37⟩
          · skip
            refine lv_if_eq (tgt := 40) hx hb dX11_as_30 (by decide) (fun c_38 => absurd c_38 (by decide)) (fun _ => ?_)
            refine lv_aload_n hx hb dX11_as_33 rfl (lv_at hl 0 rfl) ?_
            refine va_hget2 (v := .int (yv j_3)) hx hb hts kc_xAs_3 hown (hH_ j_3 (by omega)).1 (hH_ j_3 (by omega)).2 hS (hts (.fieldLink RX11 121 "MistHeaps$Heap" "v" "I") kc_xAs_2) dX11_as_34 rfl ?_
            refine lv_goto (tgt := 42) hx hb dX11_as_37 (by decide) ?_
            rw [hQ]
            exact W.iret (v := yv j_3) hx hb hr (fun tQ htQ hWQ => ⟨yv j_3, rfl, as_yes hn8 (by assumption) (by assumption) (fun q => absurd (lt6_le7 q) (Int32.not_le.mpr (by assumption))) (by assumption), by rw [htQ]⟩) (fun q hq => absurd hq List.not_mem_nil) dX11_as_42
          · skip
            refine lv_if_eq (tgt := 40) hx hb dX11_as_30 (by decide) (fun _ => ?_) (fun c_39 => absurd c_39 (by decide))
            refine lv_bipush (v := (-6)) hx hb dX11_as_40 (by decide) ?_
            rw [hQ]
            exact W.iret (v := (-6)) hx hb hr (fun tQ htQ hWQ => ⟨(-6), rfl, as_not hn8 (by assumption) (by assumption) (fun q => absurd (lt6_le7 q) (Int32.not_le.mpr (by assumption))) (by assumption), by rw [htQ]⟩) (fun q hq => absurd hq List.not_mem_nil) dX11_as_42
        · skip
          have hY : Fz dC dI [(zo12iiii (ya j_3) (yk j_3) (nI j_3) (yv j_3) (yc j_3))] [] A s := by have h9 := (hH_ j_3 (by omega)).2; rw [hpE, e_9] at h9; exact h9
          refine vp_callSi (va_runU (As := [.int y]) (rest := []) ⟨hx, hb, hml, hown, hts⟩ (c_isOfKind_X10 l dC dI kA  j_3 (yk j_3) (yv j_3) (yc j_3) y (ya j_3) (zyk j_3 (by omega))) (va_cwU 1 hts gX11_as_X3_isOfKind_u256X10 rfl rfl rfl rfl (by decide +kernel) ⟨Nat.le_of_ble_eq_true rfl, Nat.le_of_ble_eq_true rfl⟩) ⟨fun a U g mk q => by obtain ⟨q0, qhN_, qhZ⟩ := q; exact ⟨q0, qhN_.same rfl rfl, qhZ.same rfl rfl⟩, va_recv hY.2.1 (hY.P hS) (ci := 12) (q := (RX10, TX10, 4)) (q0 := 0) rfl rfl, fun U hU hW => ⟨rfl, hN_.callF hS hU hW, hY.callF hS hU hW⟩⟩ rfl rfl hl.1 rfl (lv_room (Nat.le_of_ble_eq_true rfl)) dX11_as_27 ⟨Nat.le_of_ble_eq_true rfl, Nat.le_of_ble_eq_true rfl⟩).run (fun r_40 hw_41 => ?_)
          rcases hw_41 with ⟨rfl, hU_42⟩ | ⟨rfl, hU_42⟩
          · skip
            refine lv_if_eq (tgt := 40) hx hb dX11_as_30 (by decide) (fun c_43 => absurd c_43 (by decide)) (fun _ => ?_)
            refine lv_aload_n hx hb dX11_as_33 rfl (lv_at hl 0 rfl) ?_
            refine va_hget2 (v := .int (yv j_3)) hx hb hts kc_xAs_3 hown (hH_ j_3 (by omega)).1 (hH_ j_3 (by omega)).2 hS (hts (.fieldLink RX11 121 "MistHeaps$Heap" "v" "I") kc_xAs_2) dX11_as_34 rfl ?_
            refine lv_goto (tgt := 42) hx hb dX11_as_37 (by decide) ?_
            rw [hQ]
            exact W.iret (v := yv j_3) hx hb hr (fun tQ htQ hWQ => ⟨yv j_3, rfl, as_yes hn8 (by assumption) (by assumption) (fun q => absurd (lt6_le7 q) (Int32.not_le.mpr (by assumption))) (by assumption), by rw [htQ]⟩) (fun q hq => absurd hq List.not_mem_nil) dX11_as_42
          · skip
            refine lv_if_eq (tgt := 40) hx hb dX11_as_30 (by decide) (fun _ => ?_) (fun c_44 => absurd c_44 (by decide))
            refine lv_bipush (v := (-6)) hx hb dX11_as_40 (by decide) ?_
            rw [hQ]
            exact W.iret (v := (-6)) hx hb hr (fun tQ htQ hWQ => ⟨(-6), rfl, as_not hn8 (by assumption) (by assumption) (fun q => absurd (lt6_le7 q) (Int32.not_le.mpr (by assumption))) (by assumption), by rw [htQ]⟩) (fun q hq => absurd hq List.not_mem_nil) dX11_as_42
      · skip
        refine lv_iconst (v := (-1)) hx hb dX11_as_23 (by decide) ?_
        rw [hQ]
        exact W.iret (v := (-1)) hx hb hr (fun tQ htQ hWQ => ⟨(-1), rfl, by first | exact as_no (by assumption) | exact as_bad hn8 (by assumption) (Or.inl (by assumption)) | exact as_bad hn8 (by assumption) (Or.inr (le7_lt6 (Int32.not_lt.mp (by assumption)))), by rw [htQ]⟩) (fun q hq => absurd hq List.not_mem_nil) dX11_as_24
  · skip
    refine qq_as (v := .null) rfl ?_
    refine lv_astore_nN (lv' := [(3, .null), (0, .ref h0), (1, .int x), (2, .int y)]) hx hb dX11_as_8 rfl hl (by decide) rfl (fun ls hl => ?_)
    refine lv_aload_nN hx hb dX11_as_9 rfl (lv_at hl 0 rfl) ?_
    refine lv_ifnullN (tgt := 23) hx hb dX11_as_10 (by decide) ?_
    refine lv_iconst (v := (-1)) hx hb dX11_as_23 (by decide) ?_
    rw [hQ]
    exact W.iret (v := (-1)) hx hb hr (fun tQ htQ hWQ => ⟨(-1), rfl, by first | exact as_no (by assumption) | exact as_bad hn8 (by assumption) (Or.inl (by assumption)) | exact as_bad hn8 (by assumption) (Or.inr (le7_lt6 (Int32.not_lt.mp (by assumption)))), by rw [htQ]⟩) (fun q hq => absurd hq List.not_mem_nil) dX11_as_24

theorem kc_xImage_0 : ∀ w ∈ wsX110, w ∈ wsX11_image := fun w h => List.mem_cons_of_mem _ (gin_wsX110 w h)
theorem kc_xImage_1 : (.fieldLink RX11 18 "MistHeaps" "kept" "LMistHeaps$Scene;" : Cond) ∈ wsX11_image := kc_of 329 rfl rfl rfl
theorem kc_xImage_2 : (.fieldLink RX11 14 "MistHeaps" "scene" "LMistHeaps$Scene;" : Cond) ∈ wsX11_image := kc_of 328 rfl rfl rfl
theorem kc_xImage_3 : (.fieldLink RX11 21 "MistHeaps" "isKept" "Z" : Cond) ∈ wsX11_image := kc_of 330 rfl rfl rfl
theorem kc_xImage_4 : ∀ w ∈ wsX80, w ∈ wsX11_image := fun w h => List.mem_cons_of_mem _ (gin_wsX80 w h)
theorem kc_xImage_5 : (.fieldLink RX11 101 "MistHeaps$Scene" "heapCount" "I" : Cond) ∈ wsX11_image := kc_of 173 rfl rfl rfl
set_option maxHeartbeats 4000000 in
set_option maxRecDepth 100000 in
theorem c_xImage (l : Launch) (dC : Nat → ClassId) (dI : Nat → Nat → Nat) (bS : Nat)  (h0 : Nat) (sc : Nat) (kp : Nat) (bl : Nat) (go : Nat) (ch : Nat) (bo : Nat) (aTp : Nat) (aHl : Nat) (aHs : Nat) (aWk : Nat) (aBk : Nat) (aFc : Nat) (kTp : Nat) (kHl : Nat) (kHs : Nat) (kWk : Nat) (kBk : Nat) (kFc : Nat) (ts : Nat) (nh : Nat) (n : Nat) (wz : Nat) (bz : Nat) (kn : Nat) (kts : Nat) (knh : Nat) (kwz : Nat) (kbz : Nat) (mi : Int32) (sn : Int32) (kmi : Int32) (ksn : Int32) (ik : Int32) (ed : Int64) (ked : Int64) (cTp : ClassId) (cHs : ClassId) (cWk : ClassId) (cBk : ClassId) (kcTp : ClassId) (kcHs : ClassId) (kcWk : ClassId) (kcBk : ClassId) (fTp : Nat → Int32) (fWk : Nat → Int32) (fBk : Nat → Int32) (kfTp : Nat → Int32) (kfWk : Nat → Int32) (kfBk : Nat → Int32) (yk : Nat → Int32) (yv : Nat → Int32) (yc : Nat → Int32) (fHs : Nat → Option Nat) (kfHs : Nat → Option Nat) (yi : Nat → Nat) (ya : Nat → Nat) (sz : Nat) (zhs : ∀ k0, k0 < n → fHs k0 = some (ya k0)) (hn8 : n ≤ 8) (zhn : ∀ k0, n ≤ k0 → k0 < 8 → fHs k0 = none) : Met l yX11_image wsX11_image ({ frames := 2, cells := 0, slots := 0, locals := 82 } : Room) (va_Pc [.ref h0] (fun U => U.heap.size = sz ∧ va_P (dC, dI) vwCl [(zo13rrirrrr h0 sc kp ik bl go ch bo), (zo10ririliiriririr kp kTp (nI kts) kHl (nI knh) ked kmi ksn kHs (nI kn) kWk (nI kwz) kBk (nI kbz) kFc), (zaI kTp kcTp 100 kfTp), (zaR kHs kcHs 8 kfHs), (zaI kWk kcWk 6 kfWk), (zaI kBk kcBk 12 kfBk), (zo10ririliiriririr sc aTp (nI ts) aHl (nI nh) ed mi sn aHs (nI n) aWk (nI wz) aBk (nI bz) aFc), (zaI aTp cTp 100 fTp), (zaR aHs cHs 8 fHs), (zaI aWk cWk 6 fWk), (zaI aBk cBk 12 fBk)] U.heap ∧ va_K (dC, dI) vwCl [(kcTp, .int), (kcHs, .object "MistHeaps$Heap"), (kcWk, .int), (kcBk, .int), (cTp, .int), (cHs, .object "MistHeaps$Heap"), (cWk, .int), (cBk, .int)] U ∧ va_D (fun _ => True) [(zo13rrirrrr h0 sc kp ik bl go ch bo), (zo10ririliiriririr kp kTp (nI kts) kHl (nI knh) ked kmi ksn kHs (nI kn) kWk (nI kwz) kBk (nI kbz) kFc), (zaI kTp kcTp 100 kfTp), (zaR kHs kcHs 8 kfHs), (zaI kWk kcWk 6 kfWk), (zaI kBk kcBk 12 kfBk), (zo10ririliiriririr sc aTp (nI ts) aHl (nI nh) ed mi sn aHs (nI n) aWk (nI wz) aBk (nI bz) aFc), (zaI aTp cTp 100 fTp), (zaR aHs cHs 8 fHs), (zaI aWk cWk 6 fWk), (zaI aBk cBk 12 fBk)] ∧ Gc bS (va_A [(zo13rrirrrr h0 sc kp ik bl go ch bo), (zo10ririliiriririr kp kTp (nI kts) kHl (nI knh) ked kmi ksn kHs (nI kn) kWk (nI kwz) kBk (nI kbz) kFc), (zaI kTp kcTp 100 kfTp), (zaR kHs kcHs 8 kfHs), (zaI kWk kcWk 6 kfWk), (zaI kBk kcBk 12 kfBk), (zo10ririliiriririr sc aTp (nI ts) aHl (nI nh) ed mi sn aHs (nI n) aWk (nI wz) aBk (nI bz) aFc), (zaI aTp cTp 100 fTp), (zaR aHs cHs 8 fHs), (zaI aWk cWk 6 fWk), (zaI aBk cBk 12 fBk)] sz) U ∧ Hs dC dI n yi ya yk yv yc (va_A [(zo13rrirrrr h0 sc kp ik bl go ch bo), (zo10ririliiriririr kp kTp (nI kts) kHl (nI knh) ked kmi ksn kHs (nI kn) kWk (nI kwz) kBk (nI kbz) kFc), (zaI kTp kcTp 100 kfTp), (zaR kHs kcHs 8 kfHs), (zaI kWk kcWk 6 kfWk), (zaI kBk kcBk 12 kfBk), (zo10ririliiriririr sc aTp (nI ts) aHl (nI nh) ed mi sn aHs (nI n) aWk (nI wz) aBk (nI bz) aFc), (zaI aTp cTp 100 fTp), (zaR aHs cHs 8 fHs), (zaI aWk cWk 6 fWk), (zaI aBk cBk 12 fBk)] sz) U)) (va_Qi (fun (r : Int32) (u : (Int32) × (Nat) × (Nat) × (Nat) × (Int64) × (Int32) × (Int32) × (Nat) × (Nat) × (Nat) × (Nat → Int32) × (Nat → Option Nat) × (Nat → Int32) × (Nat → Int32)) => match u with | (ik9, kts9, kHl9, knh9, ked9, kmi9, ksn9, kn9, kwz9, kbz9, kfTp9, kfHs9, kfWk9, kfBk9) => r = nI n ∧ ik9 = 1 ∧ kts9 = ts ∧ kHl9 = aHl ∧ knh9 = nh ∧ ked9 = ed ∧ kmi9 = mi ∧ ksn9 = sn ∧ kn9 = n ∧ kwz9 = wz ∧ kbz9 = bz ∧ (∀ k0, k0 < 100 → kfTp9 k0 = fTp k0) ∧ (∀ k0, k0 < 8 → kfHs9 k0 = fHs k0) ∧ (∀ k0, k0 < 6 → kfWk9 k0 = fWk k0) ∧ ∀ k0, k0 < 12 → kfBk9 k0 = fBk k0) (fun (u : (Int32) × (Nat) × (Nat) × (Nat) × (Int64) × (Int32) × (Int32) × (Nat) × (Nat) × (Nat) × (Nat → Int32) × (Nat → Option Nat) × (Nat → Int32) × (Nat → Int32)) (t : State) => match u with | (ik9, kts9, kHl9, knh9, ked9, kmi9, ksn9, kn9, kwz9, kbz9, kfTp9, kfHs9, kfWk9, kfBk9) => va_P (dC, dI) vwCl [(zo13rrirrrr h0 sc kp ik9 bl go ch bo), (zo10ririliiriririr kp kTp (nI kts9) kHl9 (nI knh9) ked9 kmi9 ksn9 kHs (nI kn9) kWk (nI kwz9) kBk (nI kbz9) kFc), (zaI kTp kcTp 100 kfTp9), (zaR kHs kcHs 8 kfHs9), (zaI kWk kcWk 6 kfWk9), (zaI kBk kcBk 12 kfBk9), (zo10ririliiriririr sc aTp (nI ts) aHl (nI nh) ed mi sn aHs (nI n) aWk (nI wz) aBk (nI bz) aFc), (zaI aTp cTp 100 fTp), (zaR aHs cHs 8 fHs), (zaI aWk cWk 6 fWk), (zaI aBk cBk 12 fBk)] t.heap ∧ va_K (dC, dI) vwCl [(kcTp, .int), (kcHs, .object "MistHeaps$Heap"), (kcWk, .int), (kcBk, .int), (cTp, .int), (cHs, .object "MistHeaps$Heap"), (cWk, .int), (cBk, .int)] t ∧ va_D (va_A [(zo13rrirrrr h0 sc kp ik bl go ch bo), (zo10ririliiriririr kp kTp (nI kts) kHl (nI knh) ked kmi ksn kHs (nI kn) kWk (nI kwz) kBk (nI kbz) kFc), (zaI kTp kcTp 100 kfTp), (zaR kHs kcHs 8 kfHs), (zaI kWk kcWk 6 kfWk), (zaI kBk kcBk 12 kfBk), (zo10ririliiriririr sc aTp (nI ts) aHl (nI nh) ed mi sn aHs (nI n) aWk (nI wz) aBk (nI bz) aFc), (zaI aTp cTp 100 fTp), (zaR aHs cHs 8 fHs), (zaI aWk cWk 6 fWk), (zaI aBk cBk 12 fBk)] sz) [(zo13rrirrrr h0 sc kp ik9 bl go ch bo), (zo10ririliiriririr kp kTp (nI kts9) kHl9 (nI knh9) ked9 kmi9 ksn9 kHs (nI kn9) kWk (nI kwz9) kBk (nI kbz9) kFc), (zaI kTp kcTp 100 kfTp9), (zaR kHs kcHs 8 kfHs9), (zaI kWk kcWk 6 kfWk9), (zaI kBk kcBk 12 kfBk9), (zo10ririliiriririr sc aTp (nI ts) aHl (nI nh) ed mi sn aHs (nI n) aWk (nI wz) aBk (nI bz) aFc), (zaI aTp cTp 100 fTp), (zaR aHs cHs 8 fHs), (zaI aWk cWk 6 fWk), (zaI aBk cBk 12 fBk)]) (va_A [(zo13rrirrrr h0 sc kp ik bl go ch bo), (zo10ririliiriririr kp kTp (nI kts) kHl (nI knh) ked kmi ksn kHs (nI kn) kWk (nI kwz) kBk (nI kbz) kFc), (zaI kTp kcTp 100 kfTp), (zaR kHs kcHs 8 kfHs), (zaI kWk kcWk 6 kfWk), (zaI kBk kcBk 12 kfBk), (zo10ririliiriririr sc aTp (nI ts) aHl (nI nh) ed mi sn aHs (nI n) aWk (nI wz) aBk (nI bz) aFc), (zaI aTp cTp 100 fTp), (zaR aHs cHs 8 fHs), (zaI aWk cWk 6 fWk), (zaI aBk cBk 12 fBk)] sz)) 0 0 (va_A [(zo13rrirrrr h0 sc kp ik bl go ch bo), (zo10ririliiriririr kp kTp (nI kts) kHl (nI knh) ked kmi ksn kHs (nI kn) kWk (nI kwz) kBk (nI kbz) kFc), (zaI kTp kcTp 100 kfTp), (zaR kHs kcHs 8 kfHs), (zaI kWk kcWk 6 kfWk), (zaI kBk kcBk 12 kfBk), (zo10ririliiriririr sc aTp (nI ts) aHl (nI nh) ed mi sn aHs (nI n) aWk (nI wz) aBk (nI bz) aFc), (zaI aTp cTp 100 fTp), (zaR aHs cHs 8 fHs), (zaI aWk cWk 6 fWk), (zaI aBk cBk 12 fBk)] sz) := by
  refine met_ofQ (cc := cX11_image) (maxL := 1) (ret := (some .int)) (by decide) rfl ?_
  intro p e s m args below meth c s₁ Q B hml hv hQ
  obtain ⟨rfl, hsz, hP, hK, hD0, hC, hH_⟩ := hv
  have hx := B.exec
  have hb := B.bytes
  have hr := B.returns
  have hts := atoms_spec (ws := wsX11_image) B.pre
  have hown : s.vm.findClass RX11 = some m.cls := findClass_of_methodNamed B.named
  have hlocks := B.notSynchronized
  subst hsz
  have hD := hD0.self (sz := s.heap.size)
  generalize hAe : va_A [(zo13rrirrrr h0 sc kp ik bl go ch bo), (zo10ririliiriririr kp kTp (nI kts) kHl (nI knh) ked kmi ksn kHs (nI kn) kWk (nI kwz) kBk (nI kbz) kFc), (zaI kTp kcTp 100 kfTp), (zaR kHs kcHs 8 kfHs), (zaI kWk kcWk 6 kfWk), (zaI kBk kcBk 12 kfBk), (zo10ririliiriririr sc aTp (nI ts) aHl (nI nh) ed mi sn aHs (nI n) aWk (nI wz) aBk (nI bz) aFc), (zaI aTp cTp 100 fTp), (zaR aHs cHs 8 fHs), (zaI aWk cWk 6 fWk), (zaI aBk cBk 12 fBk)] s.heap.size = A at hD hQ hC hH_ ⊢
  have hA : ∀ q : Nat, s.heap.size ≤ q → A q := fun q h => by rw [← hAe]; exact Or.inr h
  have hS : va_S A s.heap s.heap [] := va_S.rf
  have hl := lv_entry [.ref h0] (n := 1) (Nat.le_of_ble_eq_true rfl)
  rw [lg_entry_eq]
  generalize (lg_sl [.ref h0] ++ List.replicate (1 - (lg_sl [.ref h0]).length) Slot.unset).toArray = ls at hl ⊢
  generalize hag : ([.ref h0] : List Value).toArray = args at hts hQ ⊢
  have hl : lv_has ls 1 [(0, .ref h0)] := hl
  obtain ⟨H, hH⟩ : ∃ H : Heap, H = s.heap := ⟨_, rfl⟩
  rw [← hH] at hP
  rw [← hH]
  have hS : va_S A s.heap H [] := by rw [hH]; exact hS
  obtain ⟨locs, hlo⟩ : ∃ L : List Loc, L = [] := ⟨_, rfl⟩
  rw [← hlo] at hS
  rw [← hlo]
  clear hH hlo
  refine lv_aload_n hx hb dX11_image_0 rfl (lv_at hl 0 rfl) ?_
  refine va_get (D := (dC, dI)) (ci := 13) (v := .ref kp) (C := RX11) (T := TX11) (N := 7) hx hb hts kc_xImage_0 hown hK hP 0 rfl rfl 1 (by decide) (hts (.fieldLink RX11 18 "MistHeaps" "kept" "LMistHeaps$Scene;") kc_xImage_1) (fun _ h9 => h9) rfl dX11_image_1 ?_
  refine lv_aload_n hx hb dX11_image_4 rfl (lv_at hl 0 rfl) ?_
  refine va_get (D := (dC, dI)) (ci := 13) (v := .ref sc) (C := RX11) (T := TX11) (N := 7) hx hb hts kc_xImage_0 hown hK hP 0 rfl rfl 0 (by decide) (hts (.fieldLink RX11 14 "MistHeaps" "scene" "LMistHeaps$Scene;") kc_xImage_2) (fun _ h9 => h9) rfl dX11_image_5 ?_
  have hPc := hP.sub (ws' := [(zo10ririliiriririr kp kTp (nI kts) kHl (nI knh) ked kmi ksn kHs (nI kn) kWk (nI kwz) kBk (nI kbz) kFc), (zaI kTp kcTp 100 kfTp), (zaR kHs kcHs 8 kfHs), (zaI kWk kcWk 6 kfWk), (zaI kBk kcBk 12 kfBk), (zo10ririliiriririr sc aTp (nI ts) aHl (nI nh) ed mi sn aHs (nI n) aWk (nI wz) aBk (nI bz) aFc), (zaI aTp cTp 100 fTp), (zaR aHs cHs 8 fHs), (zaI aWk cWk 6 fWk), (zaI aBk cBk 12 fBk)]) [1, 2, 3, 4, 5, 6, 7, 8, 9, 10] rfl
  have hDc := hD.sub (ws' := [(zo10ririliiriririr kp kTp (nI kts) kHl (nI knh) ked kmi ksn kHs (nI kn) kWk (nI kwz) kBk (nI kbz) kFc), (zaI kTp kcTp 100 kfTp), (zaR kHs kcHs 8 kfHs), (zaI kWk kcWk 6 kfWk), (zaI kBk kcBk 12 kfBk), (zo10ririliiriririr sc aTp (nI ts) aHl (nI nh) ed mi sn aHs (nI n) aWk (nI wz) aBk (nI bz) aFc), (zaI aTp cTp 100 fTp), (zaR aHs cHs 8 fHs), (zaI aWk cWk 6 fWk), (zaI aBk cBk 12 fBk)]) [1, 2, 3, 4, 5, 6, 7, 8, 9, 10] (by decide) rfl
  have hKc := hK.sub (tys' := [(kcTp, .int), (kcHs, .object "MistHeaps$Heap"), (kcWk, .int), (kcBk, .int), (cTp, .int), (cHs, .object "MistHeaps$Heap"), (cWk, .int), (cBk, .int)]) [0, 1, 2, 3, 4, 5, 6, 7] rfl
  have hFc := va_free (wc := [(zo10ririliiriririr kp kTp (nI kts) kHl (nI knh) ked kmi ksn kHs (nI kn) kWk (nI kwz) kBk (nI kbz) kFc), (zaI kTp kcTp 100 kfTp), (zaR kHs kcHs 8 kfHs), (zaI kWk kcWk 6 kfWk), (zaI kBk kcBk 12 kfBk), (zo10ririliiriririr sc aTp (nI ts) aHl (nI nh) ed mi sn aHs (nI n) aWk (nI wz) aBk (nI bz) aFc), (zaI aTp cTp 100 fTp), (zaR aHs cHs 8 fHs), (zaI aWk cWk 6 fWk), (zaI aBk cBk 12 fBk)]) hD hS hA [1, 2, 3, 4, 5, 6, 7, 8, 9, 10] rfl
  refine va_callv (va_runV (As := [.ref sc]) (rest := []) ⟨hx, hb, hml, hown, hts⟩ (c_copyFrom l dC dI bS  sc kp aTp aHl aHs aWk aBk aFc kTp kHl kHs kWk kBk kFc ts nh n wz bz kn kts knh kwz kbz mi sn kmi ksn ed ked cTp cHs cWk cBk kcTp kcHs kcWk kcBk fTp fWk fBk kfTp kfWk kfBk yk yv yc fHs kfHs yi ya H.size (zhs) (hn8) (zhn)) (cwV 1 hts gX11_image_X8_copyFrom rfl rfl rfl hd_yX8_copyFrom ⟨Nat.le_of_ble_eq_true rfl, Nat.le_of_ble_eq_true rfl⟩) ⟨fun a U g mk q => by obtain ⟨q0, q1, qP, qK, qD, qhC, qhH_⟩ := q; exact ⟨q0, q1, qP, va_K.moved (u := U) (U := U.calling g mk a) (Vm.Alike.refl U.vm) qK, qD, qhC.same rfl rfl, qhH_.same rfl rfl⟩, va_recv hK hP (ci := 10) (q := (RX8, TX8, 14)) (q0 := 1) rfl rfl, fun U hU hW => ⟨rfl, by rw [hU], by rw [hU]; exact hPc, va_K.moved hW.alike hKc, hDc.weaken (fun _ _ _ _ => trivial), hC.call hS hU hW (fun q h => hFc q h), hH_.call hS hU hW (fun q h => hFc q h)⟩⟩ rfl rfl hl.1 rfl (lv_room (Nat.le_of_ble_eq_true rfl)) dX11_image_8 ⟨Nat.le_of_ble_eq_true rfl, Nat.le_of_ble_eq_true rfl⟩) hS (fun q _ h => hFc q h) hFc (fun u tC H1 locs htC hvm hw_2 hB hz1 hk1 hS => ?_)
  obtain ⟨kts9_3, kHl9_4, knh9_5, ked9_6, kmi9_7, ksn9_8, kn9_9, kwz9_10, kbz9_11, kfTp9_12, kfHs9_13, kfWk9_14, kfBk9_15⟩ := u
  try dsimp only at hw_2 hB
  obtain ⟨hP1, hK1, hD1⟩ := hB
  rw [htC] at hP1
  have hK1 := va_K.moved hvm.symm hK1
  obtain ⟨hP, hD⟩ := va_join (wr := [(zo13rrirrrr h0 sc kp ik bl go ch bo)]) (w1 := [(zo10ririliiriririr kp kTp (nI kts9_3) kHl9_4 (nI knh9_5) ked9_6 kmi9_7 ksn9_8 kHs (nI kn9_9) kWk (nI kwz9_10) kBk (nI kbz9_11) kFc), (zaI kTp kcTp 100 kfTp9_12), (zaR kHs kcHs 8 kfHs9_13), (zaI kWk kcWk 6 kfWk9_14), (zaI kBk kcBk 12 kfBk9_15), (zo10ririliiriririr sc aTp (nI ts) aHl (nI nh) ed mi sn aHs (nI n) aWk (nI wz) aBk (nI bz) aFc), (zaI aTp cTp 100 fTp), (zaR aHs cHs 8 fHs), (zaI aWk cWk 6 fWk), (zaI aBk cBk 12 fBk)]) hP hD [1, 2, 3, 4, 5, 6, 7, 8, 9, 10] [0] rfl rfl (by decide) (by decide) hk1 hFc hP1 hD1
  have hK := (hK.sub (tys' := []) [] rfl).app hK1
  generalize H1 = H at hP hS ⊢
  have hP : va_P (dC, dI) vwCl [(zo13rrirrrr h0 sc kp ik bl go ch bo), (zo10ririliiriririr kp kTp (nI kts9_3) kHl9_4 (nI knh9_5) ked9_6 kmi9_7 ksn9_8 kHs (nI kn9_9) kWk (nI kwz9_10) kBk (nI kbz9_11) kFc), (zaI kTp kcTp 100 kfTp9_12), (zaR kHs kcHs 8 kfHs9_13), (zaI kWk kcWk 6 kfWk9_14), (zaI kBk kcBk 12 kfBk9_15), (zo10ririliiriririr sc aTp (nI ts) aHl (nI nh) ed mi sn aHs (nI n) aWk (nI wz) aBk (nI bz) aFc), (zaI aTp cTp 100 fTp), (zaR aHs cHs 8 fHs), (zaI aWk cWk 6 fWk), (zaI aBk cBk 12 fBk)] H := hP
  have hD : va_D A [(zo13rrirrrr h0 sc kp ik bl go ch bo), (zo10ririliiriririr kp kTp (nI kts9_3) kHl9_4 (nI knh9_5) ked9_6 kmi9_7 ksn9_8 kHs (nI kn9_9) kWk (nI kwz9_10) kBk (nI kbz9_11) kFc), (zaI kTp kcTp 100 kfTp9_12), (zaR kHs kcHs 8 kfHs9_13), (zaI kWk kcWk 6 kfWk9_14), (zaI kBk kcBk 12 kfBk9_15), (zo10ririliiriririr sc aTp (nI ts) aHl (nI nh) ed mi sn aHs (nI n) aWk (nI wz) aBk (nI bz) aFc), (zaI aTp cTp 100 fTp), (zaR aHs cHs 8 fHs), (zaI aWk cWk 6 fWk), (zaI aBk cBk 12 fBk)] := hD
  have hK : va_K (dC, dI) vwCl [(kcTp, .int), (kcHs, .object "MistHeaps$Heap"), (kcWk, .int), (kcBk, .int), (cTp, .int), (cHs, .object "MistHeaps$Heap"), (cWk, .int), (cBk, .int)] s := hK
  refine lv_aload_n hx hb dX11_image_11 rfl (lv_at hl 0 rfl) ?_
  refine lv_iconst (v := 1) hx hb dX11_image_12 (by decide) ?_
  refine va_put (D := (dC, dI)) (ci := 13) (v := .int 1) (ty := .boolean) (C := RX11) (T := TX11) (N := 7) hx hb hts kc_xImage_0 tyX11 tyX11_ok nmX11 hown hK hP hD hS 0 rfl rfl 2 (by decide) (hts (.fieldLink RX11 21 "MistHeaps" "isKept" "Z") kc_xImage_3) (fun _ h9 => h9) rfl (by decide +kernel) rfl rfl (Nat.le_of_ble_eq_true rfl) dX11_image_13 (fun H locs hP hD hS => ?_)
  have hP : va_P (dC, dI) vwCl [(zo13rrirrrr h0 sc kp 1 bl go ch bo), (zo10ririliiriririr kp kTp (nI kts9_3) kHl9_4 (nI knh9_5) ked9_6 kmi9_7 ksn9_8 kHs (nI kn9_9) kWk (nI kwz9_10) kBk (nI kbz9_11) kFc), (zaI kTp kcTp 100 kfTp9_12), (zaR kHs kcHs 8 kfHs9_13), (zaI kWk kcWk 6 kfWk9_14), (zaI kBk kcBk 12 kfBk9_15), (zo10ririliiriririr sc aTp (nI ts) aHl (nI nh) ed mi sn aHs (nI n) aWk (nI wz) aBk (nI bz) aFc), (zaI aTp cTp 100 fTp), (zaR aHs cHs 8 fHs), (zaI aWk cWk 6 fWk), (zaI aBk cBk 12 fBk)] H := hP
  have hD : va_D A [(zo13rrirrrr h0 sc kp 1 bl go ch bo), (zo10ririliiriririr kp kTp (nI kts9_3) kHl9_4 (nI knh9_5) ked9_6 kmi9_7 ksn9_8 kHs (nI kn9_9) kWk (nI kwz9_10) kBk (nI kbz9_11) kFc), (zaI kTp kcTp 100 kfTp9_12), (zaR kHs kcHs 8 kfHs9_13), (zaI kWk kcWk 6 kfWk9_14), (zaI kBk kcBk 12 kfBk9_15), (zo10ririliiriririr sc aTp (nI ts) aHl (nI nh) ed mi sn aHs (nI n) aWk (nI wz) aBk (nI bz) aFc), (zaI aTp cTp 100 fTp), (zaR aHs cHs 8 fHs), (zaI aWk cWk 6 fWk), (zaI aBk cBk 12 fBk)] := hD
  refine lv_aload_n hx hb dX11_image_16 rfl (lv_at hl 0 rfl) ?_
  refine va_get (D := (dC, dI)) (ci := 13) (v := .ref sc) (C := RX11) (T := TX11) (N := 7) hx hb hts kc_xImage_0 hown hK hP 0 rfl rfl 0 (by decide) (hts (.fieldLink RX11 14 "MistHeaps" "scene" "LMistHeaps$Scene;") kc_xImage_2) (fun _ h9 => h9) rfl dX11_image_17 ?_
  refine va_get (D := (dC, dI)) (ci := 10) (v := .int (nI n)) (C := RX8) (T := TX8) (N := 14) hx hb hts kc_xImage_4 hown hK hP 6 rfl rfl 8 (by decide) (hts (.fieldLink RX11 101 "MistHeaps$Scene" "heapCount" "I") kc_xImage_5) (fun _ h9 => h9) rfl dX11_image_20 ?_
  rw [hQ]
  have hP9 := hP.sub (ws' := [(zo13rrirrrr h0 sc kp 1 bl go ch bo), (zo10ririliiriririr kp kTp (nI kts9_3) kHl9_4 (nI knh9_5) ked9_6 kmi9_7 ksn9_8 kHs (nI kn9_9) kWk (nI kwz9_10) kBk (nI kbz9_11) kFc), (zaI kTp kcTp 100 kfTp9_12), (zaR kHs kcHs 8 kfHs9_13), (zaI kWk kcWk 6 kfWk9_14), (zaI kBk kcBk 12 kfBk9_15), (zo10ririliiriririr sc aTp (nI ts) aHl (nI nh) ed mi sn aHs (nI n) aWk (nI wz) aBk (nI bz) aFc), (zaI aTp cTp 100 fTp), (zaR aHs cHs 8 fHs), (zaI aWk cWk 6 fWk), (zaI aBk cBk 12 fBk)]) [0, 1, 2, 3, 4, 5, 6, 7, 8, 9, 10] rfl
  have hD9 := hD.sub (ws' := [(zo13rrirrrr h0 sc kp 1 bl go ch bo), (zo10ririliiriririr kp kTp (nI kts9_3) kHl9_4 (nI knh9_5) ked9_6 kmi9_7 ksn9_8 kHs (nI kn9_9) kWk (nI kwz9_10) kBk (nI kbz9_11) kFc), (zaI kTp kcTp 100 kfTp9_12), (zaR kHs kcHs 8 kfHs9_13), (zaI kWk kcWk 6 kfWk9_14), (zaI kBk kcBk 12 kfBk9_15), (zo10ririliiriririr sc aTp (nI ts) aHl (nI nh) ed mi sn aHs (nI n) aWk (nI wz) aBk (nI bz) aFc), (zaI aTp cTp 100 fTp), (zaR aHs cHs 8 fHs), (zaI aWk cWk 6 fWk), (zaI aBk cBk 12 fBk)]) [0, 1, 2, 3, 4, 5, 6, 7, 8, 9, 10] (by decide) rfl
  have hK9 := hK.sub (tys' := [(kcTp, .int), (kcHs, .object "MistHeaps$Heap"), (kcWk, .int), (kcBk, .int), (cTp, .int), (cHs, .object "MistHeaps$Heap"), (cWk, .int), (cBk, .int)]) [0, 1, 2, 3, 4, 5, 6, 7] rfl
  exact W.iret (v := nI n) hx hb hr (fun tQ htQ hWQ => ⟨⟨(nI n), (1, kts9_3, kHl9_4, knh9_5, ked9_6, kmi9_7, ksn9_8, kn9_9, kwz9_10, kbz9_11, kfTp9_12, kfHs9_13, kfWk9_14, kfBk9_15), rfl, ⟨rfl, rfl, hw_2⟩, by rw [htQ]; exact hP9, va_K.moved hWQ.alike hK9, hD9⟩, hS.F htQ⟩) hS.2.2 dX11_image_23

theorem kc_xUndo_0 : ∀ w ∈ wsX110, w ∈ wsX11_undo := fun w h => List.mem_cons_of_mem _ (gin_wsX110 w h)
theorem kc_xUndo_1 : (.fieldLink RX11 21 "MistHeaps" "isKept" "Z" : Cond) ∈ wsX11_undo := kc_of 330 rfl rfl rfl
theorem kc_xUndo_2 : (.fieldLink RX11 14 "MistHeaps" "scene" "LMistHeaps$Scene;" : Cond) ∈ wsX11_undo := kc_of 328 rfl rfl rfl
theorem kc_xUndo_3 : (.fieldLink RX11 18 "MistHeaps" "kept" "LMistHeaps$Scene;" : Cond) ∈ wsX11_undo := kc_of 329 rfl rfl rfl
theorem kc_xUndo_4 : ∀ w ∈ wsX80, w ∈ wsX11_undo := fun w h => List.mem_cons_of_mem _ (gin_wsX80 w h)
theorem kc_xUndo_5 : (.fieldLink RX11 101 "MistHeaps$Scene" "heapCount" "I" : Cond) ∈ wsX11_undo := kc_of 173 rfl rfl rfl
set_option maxHeartbeats 4000000 in
set_option maxRecDepth 100000 in
theorem c_xUndo (l : Launch) (dC : Nat → ClassId) (dI : Nat → Nat → Nat) (bS : Nat)  (h0 : Nat) (sc : Nat) (kp : Nat) (bl : Nat) (go : Nat) (ch : Nat) (bo : Nat) (aTp : Nat) (aHl : Nat) (aHs : Nat) (aWk : Nat) (aBk : Nat) (aFc : Nat) (kTp : Nat) (kHl : Nat) (kHs : Nat) (kWk : Nat) (kBk : Nat) (kFc : Nat) (ts : Nat) (nh : Nat) (n : Nat) (wz : Nat) (bz : Nat) (kn : Nat) (kts : Nat) (knh : Nat) (kwz : Nat) (kbz : Nat) (mi : Int32) (sn : Int32) (kmi : Int32) (ksn : Int32) (ik : Int32) (ed : Int64) (ked : Int64) (cTp : ClassId) (cHs : ClassId) (cWk : ClassId) (cBk : ClassId) (kcTp : ClassId) (kcHs : ClassId) (kcWk : ClassId) (kcBk : ClassId) (fTp : Nat → Int32) (fWk : Nat → Int32) (fBk : Nat → Int32) (kfTp : Nat → Int32) (kfWk : Nat → Int32) (kfBk : Nat → Int32) (kyk : Nat → Int32) (kyv : Nat → Int32) (kyc : Nat → Int32) (fHs : Nat → Option Nat) (kfHs : Nat → Option Nat) (kyi : Nat → Nat) (kya : Nat → Nat) (sz : Nat) (kzhs : ∀ k0, k0 < kn → kfHs k0 = some (kya k0)) (khn8 : kn ≤ 8) (kzhn : ∀ k0, kn ≤ k0 → k0 < 8 → kfHs k0 = none) : Met l yX11_undo wsX11_undo ({ frames := 2, cells := 0, slots := 0, locals := 82 } : Room) (va_Pc [.ref h0] (fun U => U.heap.size = sz ∧ va_P (dC, dI) vwCl [(zo13rrirrrr h0 sc kp ik bl go ch bo), (zo10ririliiriririr kp kTp (nI kts) kHl (nI knh) ked kmi ksn kHs (nI kn) kWk (nI kwz) kBk (nI kbz) kFc), (zaI kTp kcTp 100 kfTp), (zaR kHs kcHs 8 kfHs), (zaI kWk kcWk 6 kfWk), (zaI kBk kcBk 12 kfBk), (zo10ririliiriririr sc aTp (nI ts) aHl (nI nh) ed mi sn aHs (nI n) aWk (nI wz) aBk (nI bz) aFc), (zaI aTp cTp 100 fTp), (zaR aHs cHs 8 fHs), (zaI aWk cWk 6 fWk), (zaI aBk cBk 12 fBk)] U.heap ∧ va_K (dC, dI) vwCl [(kcTp, .int), (kcHs, .object "MistHeaps$Heap"), (kcWk, .int), (kcBk, .int), (cTp, .int), (cHs, .object "MistHeaps$Heap"), (cWk, .int), (cBk, .int)] U ∧ va_D (fun _ => True) [(zo13rrirrrr h0 sc kp ik bl go ch bo), (zo10ririliiriririr kp kTp (nI kts) kHl (nI knh) ked kmi ksn kHs (nI kn) kWk (nI kwz) kBk (nI kbz) kFc), (zaI kTp kcTp 100 kfTp), (zaR kHs kcHs 8 kfHs), (zaI kWk kcWk 6 kfWk), (zaI kBk kcBk 12 kfBk), (zo10ririliiriririr sc aTp (nI ts) aHl (nI nh) ed mi sn aHs (nI n) aWk (nI wz) aBk (nI bz) aFc), (zaI aTp cTp 100 fTp), (zaR aHs cHs 8 fHs), (zaI aWk cWk 6 fWk), (zaI aBk cBk 12 fBk)] ∧ Gc bS (va_A [(zo13rrirrrr h0 sc kp ik bl go ch bo), (zo10ririliiriririr kp kTp (nI kts) kHl (nI knh) ked kmi ksn kHs (nI kn) kWk (nI kwz) kBk (nI kbz) kFc), (zaI kTp kcTp 100 kfTp), (zaR kHs kcHs 8 kfHs), (zaI kWk kcWk 6 kfWk), (zaI kBk kcBk 12 kfBk), (zo10ririliiriririr sc aTp (nI ts) aHl (nI nh) ed mi sn aHs (nI n) aWk (nI wz) aBk (nI bz) aFc), (zaI aTp cTp 100 fTp), (zaR aHs cHs 8 fHs), (zaI aWk cWk 6 fWk), (zaI aBk cBk 12 fBk)] sz) U ∧ Hs dC dI kn kyi kya kyk kyv kyc (va_A [(zo13rrirrrr h0 sc kp ik bl go ch bo), (zo10ririliiriririr kp kTp (nI kts) kHl (nI knh) ked kmi ksn kHs (nI kn) kWk (nI kwz) kBk (nI kbz) kFc), (zaI kTp kcTp 100 kfTp), (zaR kHs kcHs 8 kfHs), (zaI kWk kcWk 6 kfWk), (zaI kBk kcBk 12 kfBk), (zo10ririliiriririr sc aTp (nI ts) aHl (nI nh) ed mi sn aHs (nI n) aWk (nI wz) aBk (nI bz) aFc), (zaI aTp cTp 100 fTp), (zaR aHs cHs 8 fHs), (zaI aWk cWk 6 fWk), (zaI aBk cBk 12 fBk)] sz) U)) (va_Qi (fun (r : Int32) (u : (Nat) × (Nat) × (Nat) × (Int64) × (Int32) × (Int32) × (Nat) × (Nat) × (Nat) × (Nat → Int32) × (Nat → Option Nat) × (Nat → Int32) × (Nat → Int32)) => match u with | (ts9, aHl9, nh9, ed9, mi9, sn9, n9, wz9, bz9, fTp9, fHs9, fWk9, fBk9) => (ik = 0 ∧ r = -3 ∧ ts9 = ts ∧ aHl9 = aHl ∧ nh9 = nh ∧ ed9 = ed ∧ mi9 = mi ∧ sn9 = sn ∧ n9 = n ∧ wz9 = wz ∧ bz9 = bz ∧ fTp9 = fTp ∧ fHs9 = fHs ∧ fWk9 = fWk ∧ fBk9 = fBk) ∨ (¬ ik = 0 ∧ r = nI n9 ∧ ts9 = kts ∧ aHl9 = kHl ∧ nh9 = knh ∧ ed9 = ked ∧ mi9 = kmi ∧ sn9 = ksn ∧ n9 = kn ∧ wz9 = kwz ∧ bz9 = kbz ∧ (∀ k0, k0 < 100 → fTp9 k0 = kfTp k0) ∧ (∀ k0, k0 < 8 → fHs9 k0 = kfHs k0) ∧ (∀ k0, k0 < 6 → fWk9 k0 = kfWk k0) ∧ ∀ k0, k0 < 12 → fBk9 k0 = kfBk k0)) (fun (u : (Nat) × (Nat) × (Nat) × (Int64) × (Int32) × (Int32) × (Nat) × (Nat) × (Nat) × (Nat → Int32) × (Nat → Option Nat) × (Nat → Int32) × (Nat → Int32)) (t : State) => match u with | (ts9, aHl9, nh9, ed9, mi9, sn9, n9, wz9, bz9, fTp9, fHs9, fWk9, fBk9) => va_P (dC, dI) vwCl [(zo13rrirrrr h0 sc kp ik bl go ch bo), (zo10ririliiriririr kp kTp (nI kts) kHl (nI knh) ked kmi ksn kHs (nI kn) kWk (nI kwz) kBk (nI kbz) kFc), (zaI kTp kcTp 100 kfTp), (zaR kHs kcHs 8 kfHs), (zaI kWk kcWk 6 kfWk), (zaI kBk kcBk 12 kfBk), (zo10ririliiriririr sc aTp (nI ts9) aHl9 (nI nh9) ed9 mi9 sn9 aHs (nI n9) aWk (nI wz9) aBk (nI bz9) aFc), (zaI aTp cTp 100 fTp9), (zaR aHs cHs 8 fHs9), (zaI aWk cWk 6 fWk9), (zaI aBk cBk 12 fBk9)] t.heap ∧ va_K (dC, dI) vwCl [(kcTp, .int), (kcHs, .object "MistHeaps$Heap"), (kcWk, .int), (kcBk, .int), (cTp, .int), (cHs, .object "MistHeaps$Heap"), (cWk, .int), (cBk, .int)] t ∧ va_D (va_A [(zo13rrirrrr h0 sc kp ik bl go ch bo), (zo10ririliiriririr kp kTp (nI kts) kHl (nI knh) ked kmi ksn kHs (nI kn) kWk (nI kwz) kBk (nI kbz) kFc), (zaI kTp kcTp 100 kfTp), (zaR kHs kcHs 8 kfHs), (zaI kWk kcWk 6 kfWk), (zaI kBk kcBk 12 kfBk), (zo10ririliiriririr sc aTp (nI ts) aHl (nI nh) ed mi sn aHs (nI n) aWk (nI wz) aBk (nI bz) aFc), (zaI aTp cTp 100 fTp), (zaR aHs cHs 8 fHs), (zaI aWk cWk 6 fWk), (zaI aBk cBk 12 fBk)] sz) [(zo13rrirrrr h0 sc kp ik bl go ch bo), (zo10ririliiriririr kp kTp (nI kts) kHl (nI knh) ked kmi ksn kHs (nI kn) kWk (nI kwz) kBk (nI kbz) kFc), (zaI kTp kcTp 100 kfTp), (zaR kHs kcHs 8 kfHs), (zaI kWk kcWk 6 kfWk), (zaI kBk kcBk 12 kfBk), (zo10ririliiriririr sc aTp (nI ts9) aHl9 (nI nh9) ed9 mi9 sn9 aHs (nI n9) aWk (nI wz9) aBk (nI bz9) aFc), (zaI aTp cTp 100 fTp9), (zaR aHs cHs 8 fHs9), (zaI aWk cWk 6 fWk9), (zaI aBk cBk 12 fBk9)]) (va_A [(zo13rrirrrr h0 sc kp ik bl go ch bo), (zo10ririliiriririr kp kTp (nI kts) kHl (nI knh) ked kmi ksn kHs (nI kn) kWk (nI kwz) kBk (nI kbz) kFc), (zaI kTp kcTp 100 kfTp), (zaR kHs kcHs 8 kfHs), (zaI kWk kcWk 6 kfWk), (zaI kBk kcBk 12 kfBk), (zo10ririliiriririr sc aTp (nI ts) aHl (nI nh) ed mi sn aHs (nI n) aWk (nI wz) aBk (nI bz) aFc), (zaI aTp cTp 100 fTp), (zaR aHs cHs 8 fHs), (zaI aWk cWk 6 fWk), (zaI aBk cBk 12 fBk)] sz)) 0 0 (va_A [(zo13rrirrrr h0 sc kp ik bl go ch bo), (zo10ririliiriririr kp kTp (nI kts) kHl (nI knh) ked kmi ksn kHs (nI kn) kWk (nI kwz) kBk (nI kbz) kFc), (zaI kTp kcTp 100 kfTp), (zaR kHs kcHs 8 kfHs), (zaI kWk kcWk 6 kfWk), (zaI kBk kcBk 12 kfBk), (zo10ririliiriririr sc aTp (nI ts) aHl (nI nh) ed mi sn aHs (nI n) aWk (nI wz) aBk (nI bz) aFc), (zaI aTp cTp 100 fTp), (zaR aHs cHs 8 fHs), (zaI aWk cWk 6 fWk), (zaI aBk cBk 12 fBk)] sz) := by
  refine met_ofQ (cc := cX11_undo) (maxL := 1) (ret := (some .int)) (by decide) rfl ?_
  intro p e s m args below meth c s₁ Q B hml hv hQ
  obtain ⟨rfl, hsz, hP, hK, hD0, hC, hHk_⟩ := hv
  have hx := B.exec
  have hb := B.bytes
  have hr := B.returns
  have hts := atoms_spec (ws := wsX11_undo) B.pre
  have hown : s.vm.findClass RX11 = some m.cls := findClass_of_methodNamed B.named
  have hlocks := B.notSynchronized
  subst hsz
  have hD := hD0.self (sz := s.heap.size)
  generalize hAe : va_A [(zo13rrirrrr h0 sc kp ik bl go ch bo), (zo10ririliiriririr kp kTp (nI kts) kHl (nI knh) ked kmi ksn kHs (nI kn) kWk (nI kwz) kBk (nI kbz) kFc), (zaI kTp kcTp 100 kfTp), (zaR kHs kcHs 8 kfHs), (zaI kWk kcWk 6 kfWk), (zaI kBk kcBk 12 kfBk), (zo10ririliiriririr sc aTp (nI ts) aHl (nI nh) ed mi sn aHs (nI n) aWk (nI wz) aBk (nI bz) aFc), (zaI aTp cTp 100 fTp), (zaR aHs cHs 8 fHs), (zaI aWk cWk 6 fWk), (zaI aBk cBk 12 fBk)] s.heap.size = A at hD hQ hC hHk_ ⊢
  have hA : ∀ q : Nat, s.heap.size ≤ q → A q := fun q h => by rw [← hAe]; exact Or.inr h
  have hS : va_S A s.heap s.heap [] := va_S.rf
  have hl := lv_entry [.ref h0] (n := 1) (Nat.le_of_ble_eq_true rfl)
  rw [lg_entry_eq]
  generalize (lg_sl [.ref h0] ++ List.replicate (1 - (lg_sl [.ref h0]).length) Slot.unset).toArray = ls at hl ⊢
  generalize hag : ([.ref h0] : List Value).toArray = args at hts hQ ⊢
  have hl : lv_has ls 1 [(0, .ref h0)] := hl
  obtain ⟨H, hH⟩ : ∃ H : Heap, H = s.heap := ⟨_, rfl⟩
  rw [← hH] at hP
  rw [← hH]
  have hS : va_S A s.heap H [] := by rw [hH]; exact hS
  obtain ⟨locs, hlo⟩ : ∃ L : List Loc, L = [] := ⟨_, rfl⟩
  rw [← hlo] at hS
  rw [← hlo]
  clear hH hlo
  refine lv_aload_n hx hb dX11_undo_0 rfl (lv_at hl 0 rfl) ?_
  refine va_get (D := (dC, dI)) (ci := 13) (v := .int ik) (C := RX11) (T := TX11) (N := 7) hx hb hts kc_xUndo_0 hown hK hP 0 rfl rfl 2 (by decide) (hts (.fieldLink RX11 21 "MistHeaps" "isKept" "Z") kc_xUndo_1) (fun _ h9 => h9) rfl dX11_undo_1 ?_
  refine lv_if_ne (tgt := 10) hx hb dX11_undo_4 (by decide) (fun c_1 => ?_) (fun c_1 => ?_)
  · skip
    refine lv_aload_n hx hb dX11_undo_10 rfl (lv_at hl 0 rfl) ?_
    refine va_get (D := (dC, dI)) (ci := 13) (v := .ref sc) (C := RX11) (T := TX11) (N := 7) hx hb hts kc_xUndo_0 hown hK hP 0 rfl rfl 0 (by decide) (hts (.fieldLink RX11 14 "MistHeaps" "scene" "LMistHeaps$Scene;") kc_xUndo_2) (fun _ h9 => h9) rfl dX11_undo_11 ?_
    refine lv_aload_n hx hb dX11_undo_14 rfl (lv_at hl 0 rfl) ?_
    refine va_get (D := (dC, dI)) (ci := 13) (v := .ref kp) (C := RX11) (T := TX11) (N := 7) hx hb hts kc_xUndo_0 hown hK hP 0 rfl rfl 1 (by decide) (hts (.fieldLink RX11 18 "MistHeaps" "kept" "LMistHeaps$Scene;") kc_xUndo_3) (fun _ h9 => h9) rfl dX11_undo_15 ?_
    have hPc := hP.sub (ws' := [(zo10ririliiriririr sc aTp (nI ts) aHl (nI nh) ed mi sn aHs (nI n) aWk (nI wz) aBk (nI bz) aFc), (zaI aTp cTp 100 fTp), (zaR aHs cHs 8 fHs), (zaI aWk cWk 6 fWk), (zaI aBk cBk 12 fBk), (zo10ririliiriririr kp kTp (nI kts) kHl (nI knh) ked kmi ksn kHs (nI kn) kWk (nI kwz) kBk (nI kbz) kFc), (zaI kTp kcTp 100 kfTp), (zaR kHs kcHs 8 kfHs), (zaI kWk kcWk 6 kfWk), (zaI kBk kcBk 12 kfBk)]) [6, 7, 8, 9, 10, 1, 2, 3, 4, 5] rfl
    have hDc := hD.sub (ws' := [(zo10ririliiriririr sc aTp (nI ts) aHl (nI nh) ed mi sn aHs (nI n) aWk (nI wz) aBk (nI bz) aFc), (zaI aTp cTp 100 fTp), (zaR aHs cHs 8 fHs), (zaI aWk cWk 6 fWk), (zaI aBk cBk 12 fBk), (zo10ririliiriririr kp kTp (nI kts) kHl (nI knh) ked kmi ksn kHs (nI kn) kWk (nI kwz) kBk (nI kbz) kFc), (zaI kTp kcTp 100 kfTp), (zaR kHs kcHs 8 kfHs), (zaI kWk kcWk 6 kfWk), (zaI kBk kcBk 12 kfBk)]) [6, 7, 8, 9, 10, 1, 2, 3, 4, 5] (by decide) rfl
    have hKc := hK.sub (tys' := [(cTp, .int), (cHs, .object "MistHeaps$Heap"), (cWk, .int), (cBk, .int), (kcTp, .int), (kcHs, .object "MistHeaps$Heap"), (kcWk, .int), (kcBk, .int)]) [4, 5, 6, 7, 0, 1, 2, 3] rfl
    have hFc := va_free (wc := [(zo10ririliiriririr sc aTp (nI ts) aHl (nI nh) ed mi sn aHs (nI n) aWk (nI wz) aBk (nI bz) aFc), (zaI aTp cTp 100 fTp), (zaR aHs cHs 8 fHs), (zaI aWk cWk 6 fWk), (zaI aBk cBk 12 fBk), (zo10ririliiriririr kp kTp (nI kts) kHl (nI knh) ked kmi ksn kHs (nI kn) kWk (nI kwz) kBk (nI kbz) kFc), (zaI kTp kcTp 100 kfTp), (zaR kHs kcHs 8 kfHs), (zaI kWk kcWk 6 kfWk), (zaI kBk kcBk 12 kfBk)]) hD hS hA [6, 7, 8, 9, 10, 1, 2, 3, 4, 5] rfl
    refine va_callv (va_runV (As := [.ref kp]) (rest := []) ⟨hx, hb, hml, hown, hts⟩ (c_copyFrom l dC dI bS  kp sc kTp kHl kHs kWk kBk kFc aTp aHl aHs aWk aBk aFc kts knh kn kwz kbz n ts nh wz bz kmi ksn mi sn ked ed kcTp kcHs kcWk kcBk cTp cHs cWk cBk kfTp kfWk kfBk fTp fWk fBk kyk kyv kyc kfHs fHs kyi kya H.size (kzhs) (khn8) (kzhn)) (cwV 1 hts gX11_undo_X8_copyFrom rfl rfl rfl hd_yX8_copyFrom ⟨Nat.le_of_ble_eq_true rfl, Nat.le_of_ble_eq_true rfl⟩) ⟨fun a U g mk q => by obtain ⟨q0, q1, qP, qK, qD, qhC, qhH_⟩ := q; exact ⟨q0, q1, qP, va_K.moved (u := U) (U := U.calling g mk a) (Vm.Alike.refl U.vm) qK, qD, qhC.same rfl rfl, qhH_.same rfl rfl⟩, va_recv hK hP (ci := 10) (q := (RX8, TX8, 14)) (q0 := 6) rfl rfl, fun U hU hW => ⟨rfl, by rw [hU], by rw [hU]; exact hPc, va_K.moved hW.alike hKc, hDc.weaken (fun _ _ _ _ => trivial), hC.call hS hU hW (fun q h => hFc q h), hHk_.call hS hU hW (fun q h => hFc q h)⟩⟩ rfl rfl hl.1 rfl (lv_room (Nat.le_of_ble_eq_true rfl)) dX11_undo_18 ⟨Nat.le_of_ble_eq_true rfl, Nat.le_of_ble_eq_true rfl⟩) hS (fun q _ h => hFc q h) hFc (fun u tC H1 locs htC hvm hw_3 hB hz1 hk1 hS => ?_)
    obtain ⟨kts9_4, kHl9_5, knh9_6, ked9_7, kmi9_8, ksn9_9, kn9_10, kwz9_11, kbz9_12, kfTp9_13, kfHs9_14, kfWk9_15, kfBk9_16⟩ := u
    try dsimp only at hw_3 hB
    obtain ⟨hP1, hK1, hD1⟩ := hB
    rw [htC] at hP1
    have hK1 := va_K.moved hvm.symm hK1
    obtain ⟨hP, hD⟩ := va_join (wr := [(zo13rrirrrr h0 sc kp ik bl go ch bo)]) (w1 := [(zo10ririliiriririr sc aTp (nI kts9_4) kHl9_5 (nI knh9_6) ked9_7 kmi9_8 ksn9_9 aHs (nI kn9_10) aWk (nI kwz9_11) aBk (nI kbz9_12) aFc), (zaI aTp cTp 100 kfTp9_13), (zaR aHs cHs 8 kfHs9_14), (zaI aWk cWk 6 kfWk9_15), (zaI aBk cBk 12 kfBk9_16), (zo10ririliiriririr kp kTp (nI kts) kHl (nI knh) ked kmi ksn kHs (nI kn) kWk (nI kwz) kBk (nI kbz) kFc), (zaI kTp kcTp 100 kfTp), (zaR kHs kcHs 8 kfHs), (zaI kWk kcWk 6 kfWk), (zaI kBk kcBk 12 kfBk)]) hP hD [6, 7, 8, 9, 10, 1, 2, 3, 4, 5] [0] rfl rfl (by decide) (by decide) hk1 hFc hP1 hD1
    have hK := (hK.sub (tys' := []) [] rfl).app hK1
    generalize H1 = H at hP hS ⊢
    have hP : va_P (dC, dI) vwCl [(zo13rrirrrr h0 sc kp ik bl go ch bo), (zo10ririliiriririr sc aTp (nI kts9_4) kHl9_5 (nI knh9_6) ked9_7 kmi9_8 ksn9_9 aHs (nI kn9_10) aWk (nI kwz9_11) aBk (nI kbz9_12) aFc), (zaI aTp cTp 100 kfTp9_13), (zaR aHs cHs 8 kfHs9_14), (zaI aWk cWk 6 kfWk9_15), (zaI aBk cBk 12 kfBk9_16), (zo10ririliiriririr kp kTp (nI kts) kHl (nI knh) ked kmi ksn kHs (nI kn) kWk (nI kwz) kBk (nI kbz) kFc), (zaI kTp kcTp 100 kfTp), (zaR kHs kcHs 8 kfHs), (zaI kWk kcWk 6 kfWk), (zaI kBk kcBk 12 kfBk)] H := hP
    have hD : va_D A [(zo13rrirrrr h0 sc kp ik bl go ch bo), (zo10ririliiriririr sc aTp (nI kts9_4) kHl9_5 (nI knh9_6) ked9_7 kmi9_8 ksn9_9 aHs (nI kn9_10) aWk (nI kwz9_11) aBk (nI kbz9_12) aFc), (zaI aTp cTp 100 kfTp9_13), (zaR aHs cHs 8 kfHs9_14), (zaI aWk cWk 6 kfWk9_15), (zaI aBk cBk 12 kfBk9_16), (zo10ririliiriririr kp kTp (nI kts) kHl (nI knh) ked kmi ksn kHs (nI kn) kWk (nI kwz) kBk (nI kbz) kFc), (zaI kTp kcTp 100 kfTp), (zaR kHs kcHs 8 kfHs), (zaI kWk kcWk 6 kfWk), (zaI kBk kcBk 12 kfBk)] := hD
    have hK : va_K (dC, dI) vwCl [(cTp, .int), (cHs, .object "MistHeaps$Heap"), (cWk, .int), (cBk, .int), (kcTp, .int), (kcHs, .object "MistHeaps$Heap"), (kcWk, .int), (kcBk, .int)] s := hK
    refine lv_aload_n hx hb dX11_undo_21 rfl (lv_at hl 0 rfl) ?_
    refine va_get (D := (dC, dI)) (ci := 13) (v := .ref sc) (C := RX11) (T := TX11) (N := 7) hx hb hts kc_xUndo_0 hown hK hP 0 rfl rfl 0 (by decide) (hts (.fieldLink RX11 14 "MistHeaps" "scene" "LMistHeaps$Scene;") kc_xUndo_2) (fun _ h9 => h9) rfl dX11_undo_22 ?_
    refine va_get (D := (dC, dI)) (ci := 10) (v := .int (nI kn9_10)) (C := RX8) (T := TX8) (N := 14) hx hb hts kc_xUndo_4 hown hK hP 1 rfl rfl 8 (by decide) (hts (.fieldLink RX11 101 "MistHeaps$Scene" "heapCount" "I") kc_xUndo_5) (fun _ h9 => h9) rfl dX11_undo_25 ?_
    rw [hQ]
    have hP9 := hP.sub (ws' := [(zo13rrirrrr h0 sc kp ik bl go ch bo), (zo10ririliiriririr kp kTp (nI kts) kHl (nI knh) ked kmi ksn kHs (nI kn) kWk (nI kwz) kBk (nI kbz) kFc), (zaI kTp kcTp 100 kfTp), (zaR kHs kcHs 8 kfHs), (zaI kWk kcWk 6 kfWk), (zaI kBk kcBk 12 kfBk), (zo10ririliiriririr sc aTp (nI kts9_4) kHl9_5 (nI knh9_6) ked9_7 kmi9_8 ksn9_9 aHs (nI kn9_10) aWk (nI kwz9_11) aBk (nI kbz9_12) aFc), (zaI aTp cTp 100 kfTp9_13), (zaR aHs cHs 8 kfHs9_14), (zaI aWk cWk 6 kfWk9_15), (zaI aBk cBk 12 kfBk9_16)]) [0, 6, 7, 8, 9, 10, 1, 2, 3, 4, 5] rfl
    have hD9 := hD.sub (ws' := [(zo13rrirrrr h0 sc kp ik bl go ch bo), (zo10ririliiriririr kp kTp (nI kts) kHl (nI knh) ked kmi ksn kHs (nI kn) kWk (nI kwz) kBk (nI kbz) kFc), (zaI kTp kcTp 100 kfTp), (zaR kHs kcHs 8 kfHs), (zaI kWk kcWk 6 kfWk), (zaI kBk kcBk 12 kfBk), (zo10ririliiriririr sc aTp (nI kts9_4) kHl9_5 (nI knh9_6) ked9_7 kmi9_8 ksn9_9 aHs (nI kn9_10) aWk (nI kwz9_11) aBk (nI kbz9_12) aFc), (zaI aTp cTp 100 kfTp9_13), (zaR aHs cHs 8 kfHs9_14), (zaI aWk cWk 6 kfWk9_15), (zaI aBk cBk 12 kfBk9_16)]) [0, 6, 7, 8, 9, 10, 1, 2, 3, 4, 5] (by decide) rfl
    have hK9 := hK.sub (tys' := [(kcTp, .int), (kcHs, .object "MistHeaps$Heap"), (kcWk, .int), (kcBk, .int), (cTp, .int), (cHs, .object "MistHeaps$Heap"), (cWk, .int), (cBk, .int)]) [4, 5, 6, 7, 0, 1, 2, 3] rfl
    exact W.iret (v := nI kn9_10) hx hb hr (fun tQ htQ hWQ => ⟨⟨(nI kn9_10), (kts9_4, kHl9_5, knh9_6, ked9_7, kmi9_8, ksn9_9, kn9_10, kwz9_11, kbz9_12, kfTp9_13, kfHs9_14, kfWk9_15, kfBk9_16), rfl, Or.inr ⟨by assumption, rfl, hw_3⟩, by rw [htQ]; exact hP9, va_K.moved hWQ.alike hK9, hD9⟩, hS.F htQ⟩) hS.2.2 dX11_undo_28
  · skip
    refine lv_bipush (v := (-3)) hx hb dX11_undo_7 (by decide) ?_
    rw [hQ]
    have hP9 := hP.sub (ws' := [(zo13rrirrrr h0 sc kp ik bl go ch bo), (zo10ririliiriririr kp kTp (nI kts) kHl (nI knh) ked kmi ksn kHs (nI kn) kWk (nI kwz) kBk (nI kbz) kFc), (zaI kTp kcTp 100 kfTp), (zaR kHs kcHs 8 kfHs), (zaI kWk kcWk 6 kfWk), (zaI kBk kcBk 12 kfBk), (zo10ririliiriririr sc aTp (nI ts) aHl (nI nh) ed mi sn aHs (nI n) aWk (nI wz) aBk (nI bz) aFc), (zaI aTp cTp 100 fTp), (zaR aHs cHs 8 fHs), (zaI aWk cWk 6 fWk), (zaI aBk cBk 12 fBk)]) [0, 1, 2, 3, 4, 5, 6, 7, 8, 9, 10] rfl
    have hD9 := hD.sub (ws' := [(zo13rrirrrr h0 sc kp ik bl go ch bo), (zo10ririliiriririr kp kTp (nI kts) kHl (nI knh) ked kmi ksn kHs (nI kn) kWk (nI kwz) kBk (nI kbz) kFc), (zaI kTp kcTp 100 kfTp), (zaR kHs kcHs 8 kfHs), (zaI kWk kcWk 6 kfWk), (zaI kBk kcBk 12 kfBk), (zo10ririliiriririr sc aTp (nI ts) aHl (nI nh) ed mi sn aHs (nI n) aWk (nI wz) aBk (nI bz) aFc), (zaI aTp cTp 100 fTp), (zaR aHs cHs 8 fHs), (zaI aWk cWk 6 fWk), (zaI aBk cBk 12 fBk)]) [0, 1, 2, 3, 4, 5, 6, 7, 8, 9, 10] (by decide) rfl
    have hK9 := hK.sub (tys' := [(kcTp, .int), (kcHs, .object "MistHeaps$Heap"), (kcWk, .int), (kcBk, .int), (cTp, .int), (cHs, .object "MistHeaps$Heap"), (cWk, .int), (cBk, .int)]) [0, 1, 2, 3, 4, 5, 6, 7] rfl
    exact W.iret (v := (-3)) hx hb hr (fun tQ htQ hWQ => ⟨⟨(-3), (ts, aHl, nh, ed, mi, sn, n, wz, bz, fTp, fHs, fWk, fBk), rfl, Or.inl ⟨by assumption, rfl, rfl, rfl, rfl, rfl, rfl, rfl, rfl, rfl, rfl, rfl, rfl, rfl, rfl⟩, by rw [htQ]; exact hP9, va_K.moved hWQ.alike hK9, hD9⟩, hS.F htQ⟩) hS.2.2 dX11_undo_9
