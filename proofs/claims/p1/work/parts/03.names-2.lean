set_option maxRecDepth 20000 in
theorem gX12_hill_X12_clauseHere : GoodIn wsX12_hill (wsV RX12 134 RX12 yX12_clauseHere wsX12_clauseHere) := goodIn_app (goodIn_of _ (by decide +kernel)) ggX12_hill_X12_clauseHere
set_option maxRecDepth 20000 in
theorem ggX12_hill_X12_here : GoodIn wsX12_hill wsX12_here := goodIn_r _ [15, 4, 3, 1, 108, 109, 110, 111, 112, 113, 114, 115, 116, 117, 118, 119, 120, 121, 122, 123, 124, 125, 126, 127, 128, 129, 130] (by decide +kernel) (by decide +kernel)
set_option maxRecDepth 20000 in
theorem gX12_hill_X12_here : GoodIn wsX12_hill (wsV RX12 69 RX12 yX12_here wsX12_here) := goodIn_app (goodIn_of _ (by decide +kernel)) ggX12_hill_X12_here
theorem dX12_hill_0 : decode cX12_hill 0 = .ok (.aload_n 0, 1) := by decide +kernel
theorem dX12_hill_1 : decode cX12_hill 1 = .ok (.getfield 9, 3) := by decide +kernel
theorem dX12_hill_4 : decode cX12_hill 4 = .ok (.iconst 1, 1) := by decide +kernel
theorem dX12_hill_5 : decode cX12_hill 5 = .ok (.iaload, 1) := by decide +kernel
theorem dX12_hill_6 : decode cX12_hill 6 = .ok (.iconst 5, 1) := by decide +kernel
theorem dX12_hill_7 : decode cX12_hill 7 = .ok (.if_icmp .ne 6, 3) := by decide +kernel
theorem dX12_hill_10 : decode cX12_hill 10 = .ok (.bipush (-4), 2) := by decide +kernel
theorem dX12_hill_12 : decode cX12_hill 12 = .ok (.ireturn, 1) := by decide +kernel
theorem dX12_hill_13 : decode cX12_hill 13 = .ok (.aload_n 0, 1) := by decide +kernel
theorem dX12_hill_14 : decode cX12_hill 14 = .ok (.aload_n 0, 1) := by decide +kernel
theorem dX12_hill_15 : decode cX12_hill 15 = .ok (.getfield 9, 3) := by decide +kernel
theorem dX12_hill_18 : decode cX12_hill 18 = .ok (.iconst 1, 1) := by decide +kernel
theorem dX12_hill_19 : decode cX12_hill 19 = .ok (.iaload, 1) := by decide +kernel
theorem dX12_hill_20 : decode cX12_hill 20 = .ok (.putfield 86, 3) := by decide +kernel
theorem dX12_hill_23 : decode cX12_hill 23 = .ok (.aload_n 0, 1) := by decide +kernel
theorem dX12_hill_24 : decode cX12_hill 24 = .ok (.aload_n 0, 1) := by decide +kernel
theorem dX12_hill_25 : decode cX12_hill 25 = .ok (.getfield 9, 3) := by decide +kernel
theorem dX12_hill_28 : decode cX12_hill 28 = .ok (.iconst 4, 1) := by decide +kernel
theorem dX12_hill_29 : decode cX12_hill 29 = .ok (.iaload, 1) := by decide +kernel
theorem dX12_hill_30 : decode cX12_hill 30 = .ok (.putfield 62, 3) := by decide +kernel
theorem dX12_hill_33 : decode cX12_hill 33 = .ok (.aload_n 0, 1) := by decide +kernel
theorem dX12_hill_34 : decode cX12_hill 34 = .ok (.getfield 9, 3) := by decide +kernel
theorem dX12_hill_37 : decode cX12_hill 37 = .ok (.iconst 4, 1) := by decide +kernel
theorem dX12_hill_38 : decode cX12_hill 38 = .ok (.iconst 0, 1) := by decide +kernel
theorem dX12_hill_39 : decode cX12_hill 39 = .ok (.iastore, 1) := by decide +kernel
theorem dX12_hill_40 : decode cX12_hill 40 = .ok (.aload_n 0, 1) := by decide +kernel
theorem dX12_hill_41 : decode cX12_hill 41 = .ok (.getfield 9, 3) := by decide +kernel
theorem dX12_hill_44 : decode cX12_hill 44 = .ok (.sipush 191, 3) := by decide +kernel
theorem dX12_hill_47 : decode cX12_hill 47 = .ok (.aload_n 0, 1) := by decide +kernel
theorem dX12_hill_48 : decode cX12_hill 48 = .ok (.getfield 86, 3) := by decide +kernel
theorem dX12_hill_51 : decode cX12_hill 51 = .ok (.iadd, 1) := by decide +kernel
theorem dX12_hill_52 : decode cX12_hill 52 = .ok (.iconst 3, 1) := by decide +kernel
theorem dX12_hill_53 : decode cX12_hill 53 = .ok (.iastore, 1) := by decide +kernel
theorem dX12_hill_54 : decode cX12_hill 54 = .ok (.aload_n 0, 1) := by decide +kernel
theorem dX12_hill_55 : decode cX12_hill 55 = .ok (.getfield 9, 3) := by decide +kernel
theorem dX12_hill_58 : decode cX12_hill 58 = .ok (.sipush 196, 3) := by decide +kernel
theorem dX12_hill_61 : decode cX12_hill 61 = .ok (.aload_n 0, 1) := by decide +kernel
theorem dX12_hill_62 : decode cX12_hill 62 = .ok (.getfield 86, 3) := by decide +kernel
theorem dX12_hill_65 : decode cX12_hill 65 = .ok (.iadd, 1) := by decide +kernel
theorem dX12_hill_66 : decode cX12_hill 66 = .ok (.iconst 0, 1) := by decide +kernel
theorem dX12_hill_67 : decode cX12_hill 67 = .ok (.iastore, 1) := by decide +kernel
theorem dX12_hill_68 : decode cX12_hill 68 = .ok (.aload_n 0, 1) := by decide +kernel
theorem dX12_hill_69 : decode cX12_hill 69 = .ok (.iconst 0, 1) := by decide +kernel
theorem dX12_hill_70 : decode cX12_hill 70 = .ok (.putfield 59, 3) := by decide +kernel
theorem dX12_hill_73 : decode cX12_hill 73 = .ok (.aload_n 0, 1) := by decide +kernel
theorem dX12_hill_74 : decode cX12_hill 74 = .ok (.iconst 0, 1) := by decide +kernel
theorem dX12_hill_75 : decode cX12_hill 75 = .ok (.putfield 65, 3) := by decide +kernel
theorem dX12_hill_78 : decode cX12_hill 78 = .ok (.aload_n 0, 1) := by decide +kernel
theorem dX12_hill_79 : decode cX12_hill 79 = .ok (.iconst 0, 1) := by decide +kernel
theorem dX12_hill_80 : decode cX12_hill 80 = .ok (.putfield 89, 3) := by decide +kernel
theorem dX12_hill_83 : decode cX12_hill 83 = .ok (.iconst 1, 1) := by decide +kernel
theorem dX12_hill_84 : decode cX12_hill 84 = .ok (.istore_n 1, 1) := by decide +kernel
theorem dX12_hill_85 : decode cX12_hill 85 = .ok (.aload_n 0, 1) := by decide +kernel
theorem dX12_hill_86 : decode cX12_hill 86 = .ok (.invokevirtual 134, 3) := by decide +kernel
theorem dX12_hill_89 : decode cX12_hill 89 = .ok (.aload_n 0, 1) := by decide +kernel
theorem dX12_hill_90 : decode cX12_hill 90 = .ok (.getfield 65, 3) := by decide +kernel
theorem dX12_hill_93 : decode cX12_hill 93 = .ok (.ifCond .ne 38, 3) := by decide +kernel
theorem dX12_hill_96 : decode cX12_hill 96 = .ok (.iload_n 1, 1) := by decide +kernel
theorem dX12_hill_97 : decode cX12_hill 97 = .ok (.bipush 10, 2) := by decide +kernel
theorem dX12_hill_99 : decode cX12_hill 99 = .ok (.if_icmp .ge 32, 3) := by decide +kernel
theorem dX12_hill_102 : decode cX12_hill 102 = .ok (.aload_n 0, 1) := by decide +kernel
theorem dX12_hill_103 : decode cX12_hill 103 = .ok (.invokevirtual 69, 3) := by decide +kernel
theorem dX12_hill_106 : decode cX12_hill 106 = .ok (.bipush 59, 2) := by decide +kernel
theorem dX12_hill_108 : decode cX12_hill 108 = .ok (.if_icmp .ne 23, 3) := by decide +kernel
theorem dX12_hill_111 : decode cX12_hill 111 = .ok (.aload_n 0, 1) := by decide +kernel
theorem dX12_hill_112 : decode cX12_hill 112 = .ok (.dup, 1) := by decide +kernel
theorem dX12_hill_113 : decode cX12_hill 113 = .ok (.getfield 59, 3) := by decide +kernel
theorem dX12_hill_116 : decode cX12_hill 116 = .ok (.iconst 1, 1) := by decide +kernel
theorem dX12_hill_117 : decode cX12_hill 117 = .ok (.iadd, 1) := by decide +kernel
theorem dX12_hill_118 : decode cX12_hill 118 = .ok (.putfield 59, 3) := by decide +kernel
theorem dX12_hill_121 : decode cX12_hill 121 = .ok (.aload_n 0, 1) := by decide +kernel
theorem dX12_hill_122 : decode cX12_hill 122 = .ok (.invokevirtual 134, 3) := by decide +kernel
theorem dX12_hill_125 : decode cX12_hill 125 = .ok (.iinc 1 1, 3) := by decide +kernel
theorem dX12_hill_128 : decode cX12_hill 128 = .ok (.goto (-39), 3) := by decide +kernel
theorem dX12_hill_131 : decode cX12_hill 131 = .ok (.aload_n 0, 1) := by decide +kernel
theorem dX12_hill_132 : decode cX12_hill 132 = .ok (.getfield 65, 3) := by decide +kernel
theorem dX12_hill_135 : decode cX12_hill 135 = .ok (.ifCond .ne 14, 3) := by decide +kernel
theorem dX12_hill_138 : decode cX12_hill 138 = .ok (.aload_n 0, 1) := by decide +kernel
theorem dX12_hill_139 : decode cX12_hill 139 = .ok (.getfield 59, 3) := by decide +kernel
theorem dX12_hill_142 : decode cX12_hill 142 = .ok (.aload_n 0, 1) := by decide +kernel
theorem dX12_hill_143 : decode cX12_hill 143 = .ok (.getfield 62, 3) := by decide +kernel
theorem dX12_hill_146 : decode cX12_hill 146 = .ok (.if_icmp .eq 11, 3) := by decide +kernel
theorem dX12_hill_149 : decode cX12_hill 149 = .ok (.bipush (-10), 2) := by decide +kernel
theorem dX12_hill_151 : decode cX12_hill 151 = .ok (.aload_n 0, 1) := by decide +kernel
theorem dX12_hill_152 : decode cX12_hill 152 = .ok (.getfield 59, 3) := by decide +kernel
theorem dX12_hill_155 : decode cX12_hill 155 = .ok (.isub, 1) := by decide +kernel
theorem dX12_hill_156 : decode cX12_hill 156 = .ok (.ireturn, 1) := by decide +kernel
theorem dX12_hill_157 : decode cX12_hill 157 = .ok (.aload_n 0, 1) := by decide +kernel
theorem dX12_hill_158 : decode cX12_hill 158 = .ok (.getfield 9, 3) := by decide +kernel
theorem dX12_hill_161 : decode cX12_hill 161 = .ok (.iconst 1, 1) := by decide +kernel
theorem dX12_hill_162 : decode cX12_hill 162 = .ok (.dup2, 1) := by decide +kernel
theorem dX12_hill_163 : decode cX12_hill 163 = .ok (.iaload, 1) := by decide +kernel
theorem dX12_hill_164 : decode cX12_hill 164 = .ok (.iconst 1, 1) := by decide +kernel
theorem dX12_hill_165 : decode cX12_hill 165 = .ok (.iadd, 1) := by decide +kernel
theorem dX12_hill_166 : decode cX12_hill 166 = .ok (.iastore, 1) := by decide +kernel
theorem dX12_hill_167 : decode cX12_hill 167 = .ok (.aload_n 0, 1) := by decide +kernel
theorem dX12_hill_168 : decode cX12_hill 168 = .ok (.getfield 9, 3) := by decide +kernel
theorem dX12_hill_171 : decode cX12_hill 171 = .ok (.iconst 5, 1) := by decide +kernel
theorem dX12_hill_172 : decode cX12_hill 172 = .ok (.aload_n 0, 1) := by decide +kernel
theorem dX12_hill_173 : decode cX12_hill 173 = .ok (.getfield 86, 3) := by decide +kernel
theorem dX12_hill_176 : decode cX12_hill 176 = .ok (.iastore, 1) := by decide +kernel
theorem dX12_hill_177 : decode cX12_hill 177 = .ok (.aload_n 0, 1) := by decide +kernel
theorem dX12_hill_178 : decode cX12_hill 178 = .ok (.getfield 86, 3) := by decide +kernel
theorem dX12_hill_181 : decode cX12_hill 181 = .ok (.ireturn, 1) := by decide +kernel
theorem dX12_sight_0 : decode cX12_sight 0 = .ok (.aload_n 0, 1) := by decide +kernel
theorem dX12_sight_1 : decode cX12_sight 1 = .ok (.getfield 9, 3) := by decide +kernel
theorem dX12_sight_4 : decode cX12_sight 4 = .ok (.iconst 5, 1) := by decide +kernel
theorem dX12_sight_5 : decode cX12_sight 5 = .ok (.iaload, 1) := by decide +kernel
theorem dX12_sight_6 : decode cX12_sight 6 = .ok (.iconst (-1), 1) := by decide +kernel
theorem dX12_sight_7 : decode cX12_sight 7 = .ok (.if_icmp .ne 7, 3) := by decide +kernel
theorem dX12_sight_10 : decode cX12_sight 10 = .ok (.iconst 3, 1) := by decide +kernel
theorem dX12_sight_11 : decode cX12_sight 11 = .ok (.goto 18, 3) := by decide +kernel
theorem dX12_sight_14 : decode cX12_sight 14 = .ok (.aload_n 0, 1) := by decide +kernel
theorem dX12_sight_15 : decode cX12_sight 15 = .ok (.getfield 9, 3) := by decide +kernel
theorem dX12_sight_18 : decode cX12_sight 18 = .ok (.sipush 191, 3) := by decide +kernel
theorem dX12_sight_21 : decode cX12_sight 21 = .ok (.aload_n 0, 1) := by decide +kernel
theorem dX12_sight_22 : decode cX12_sight 22 = .ok (.getfield 9, 3) := by decide +kernel
theorem dX12_sight_25 : decode cX12_sight 25 = .ok (.iconst 5, 1) := by decide +kernel
theorem dX12_sight_26 : decode cX12_sight 26 = .ok (.iaload, 1) := by decide +kernel
theorem dX12_sight_27 : decode cX12_sight 27 = .ok (.iadd, 1) := by decide +kernel
theorem dX12_sight_28 : decode cX12_sight 28 = .ok (.iaload, 1) := by decide +kernel
theorem dX12_sight_29 : decode cX12_sight 29 = .ok (.ireturn, 1) := by decide +kernel
set_option maxRecDepth 20000 in
theorem ggX12_edges_X12_edgesMany : GoodIn wsX12_edges wsX12_edgesMany := goodIn_r _ [6, 1, 7, 8, 9, 10, 11, 12, 13, 14, 15, 16, 17, 18, 19, 20, 21, 22, 23, 24, 25, 26, 27, 28, 29] (by decide +kernel) (by decide +kernel)
set_option maxRecDepth 20000 in
theorem gX12_edges_X12_edgesMany : GoodIn wsX12_edges (wsV RX12 137 RX12 yX12_edgesMany wsX12_edgesMany) := goodIn_app (goodIn_of _ (by decide +kernel)) ggX12_edges_X12_edgesMany
theorem dX12_edges_0 : decode cX12_edges 0 = .ok (.lload_n 1, 1) := by decide +kernel
theorem dX12_edges_1 : decode cX12_edges 1 = .ok (.lconst 0, 1) := by decide +kernel
theorem dX12_edges_2 : decode cX12_edges 2 = .ok (.lcmp, 1) := by decide +kernel
theorem dX12_edges_3 : decode cX12_edges 3 = .ok (.ifCond .lt 12, 3) := by decide +kernel
theorem dX12_edges_6 : decode cX12_edges 6 = .ok (.lload_n 1, 1) := by decide +kernel
theorem dX12_edges_7 : decode cX12_edges 7 = .ok (.bipush 36, 2) := by decide +kernel
theorem dX12_edges_9 : decode cX12_edges 9 = .ok (.lshr, 1) := by decide +kernel
theorem dX12_edges_10 : decode cX12_edges 10 = .ok (.lconst 0, 1) := by decide +kernel
theorem dX12_edges_11 : decode cX12_edges 11 = .ok (.lcmp, 1) := by decide +kernel
theorem dX12_edges_12 : decode cX12_edges 12 = .ok (.ifCond .eq 6, 3) := by decide +kernel
theorem dX12_edges_15 : decode cX12_edges 15 = .ok (.bipush (-2), 2) := by decide +kernel
theorem dX12_edges_17 : decode cX12_edges 17 = .ok (.ireturn, 1) := by decide +kernel
theorem dX12_edges_18 : decode cX12_edges 18 = .ok (.aload_n 0, 1) := by decide +kernel
theorem dX12_edges_19 : decode cX12_edges 19 = .ok (.invokevirtual 137, 3) := by decide +kernel
theorem dX12_edges_22 : decode cX12_edges 22 = .ok (.istore_n 3, 1) := by decide +kernel
theorem dX12_edges_23 : decode cX12_edges 23 = .ok (.iconst 0, 1) := by decide +kernel
theorem dX12_edges_24 : decode cX12_edges 24 = .ok (.istore 4, 2) := by decide +kernel
theorem dX12_edges_26 : decode cX12_edges 26 = .ok (.iload 4, 2) := by decide +kernel
theorem dX12_edges_28 : decode cX12_edges 28 = .ok (.bipush 36, 2) := by decide +kernel
theorem dX12_edges_30 : decode cX12_edges 30 = .ok (.if_icmp .ge 26, 3) := by decide +kernel
theorem dX12_edges_33 : decode cX12_edges 33 = .ok (.aload_n 0, 1) := by decide +kernel
theorem dX12_edges_34 : decode cX12_edges 34 = .ok (.getfield 9, 3) := by decide +kernel
theorem dX12_edges_37 : decode cX12_edges 37 = .ok (.bipush 37, 2) := by decide +kernel
theorem dX12_edges_39 : decode cX12_edges 39 = .ok (.iload 4, 2) := by decide +kernel
theorem dX12_edges_41 : decode cX12_edges 41 = .ok (.iadd, 1) := by decide +kernel
theorem dX12_edges_42 : decode cX12_edges 42 = .ok (.lload_n 1, 1) := by decide +kernel
theorem dX12_edges_43 : decode cX12_edges 43 = .ok (.iload 4, 2) := by decide +kernel
theorem dX12_edges_45 : decode cX12_edges 45 = .ok (.lshr, 1) := by decide +kernel
theorem dX12_edges_46 : decode cX12_edges 46 = .ok (.lconst 1, 1) := by decide +kernel
theorem dX12_edges_47 : decode cX12_edges 47 = .ok (.land, 1) := by decide +kernel
theorem dX12_edges_48 : decode cX12_edges 48 = .ok (.l2i, 1) := by decide +kernel
theorem dX12_edges_49 : decode cX12_edges 49 = .ok (.iastore, 1) := by decide +kernel
theorem dX12_edges_50 : decode cX12_edges 50 = .ok (.iinc 4 1, 3) := by decide +kernel
theorem dX12_edges_53 : decode cX12_edges 53 = .ok (.goto (-27), 3) := by decide +kernel
theorem dX12_edges_56 : decode cX12_edges 56 = .ok (.iload_n 3, 1) := by decide +kernel
theorem dX12_edges_57 : decode cX12_edges 57 = .ok (.ireturn, 1) := by decide +kernel
theorem dX12_edgesMany_0 : decode cX12_edgesMany 0 = .ok (.iconst 0, 1) := by decide +kernel
theorem dX12_edgesMany_1 : decode cX12_edgesMany 1 = .ok (.istore_n 1, 1) := by decide +kernel
theorem dX12_edgesMany_2 : decode cX12_edgesMany 2 = .ok (.iconst 0, 1) := by decide +kernel
theorem dX12_edgesMany_3 : decode cX12_edgesMany 3 = .ok (.istore_n 2, 1) := by decide +kernel
theorem dX12_edgesMany_4 : decode cX12_edgesMany 4 = .ok (.iload_n 2, 1) := by decide +kernel
theorem dX12_edgesMany_5 : decode cX12_edgesMany 5 = .ok (.bipush 36, 2) := by decide +kernel
theorem dX12_edgesMany_7 : decode cX12_edgesMany 7 = .ok (.if_icmp .ge 21, 3) := by decide +kernel
theorem dX12_edgesMany_10 : decode cX12_edgesMany 10 = .ok (.iload_n 1, 1) := by decide +kernel
theorem dX12_edgesMany_11 : decode cX12_edgesMany 11 = .ok (.aload_n 0, 1) := by decide +kernel
theorem dX12_edgesMany_12 : decode cX12_edgesMany 12 = .ok (.getfield 9, 3) := by decide +kernel
theorem dX12_edgesMany_15 : decode cX12_edgesMany 15 = .ok (.bipush 37, 2) := by decide +kernel
theorem dX12_edgesMany_17 : decode cX12_edgesMany 17 = .ok (.iload_n 2, 1) := by decide +kernel
theorem dX12_edgesMany_18 : decode cX12_edgesMany 18 = .ok (.iadd, 1) := by decide +kernel
theorem dX12_edgesMany_19 : decode cX12_edgesMany 19 = .ok (.iaload, 1) := by decide +kernel
theorem dX12_edgesMany_20 : decode cX12_edgesMany 20 = .ok (.iadd, 1) := by decide +kernel
theorem dX12_edgesMany_21 : decode cX12_edgesMany 21 = .ok (.istore_n 1, 1) := by decide +kernel
theorem dX12_edgesMany_22 : decode cX12_edgesMany 22 = .ok (.iinc 2 1, 3) := by decide +kernel
theorem dX12_edgesMany_25 : decode cX12_edgesMany 25 = .ok (.goto (-21), 3) := by decide +kernel
theorem dX12_edgesMany_28 : decode cX12_edgesMany 28 = .ok (.iload_n 1, 1) := by decide +kernel
theorem dX12_edgesMany_29 : decode cX12_edgesMany 29 = .ok (.ireturn, 1) := by decide +kernel
set_option maxRecDepth 20000 in
theorem ggX12_set_X12_in : GoodIn wsX12_set wsX12_in := goodIn_r _ [5] (by decide +kernel) (by decide +kernel)
set_option maxRecDepth 20000 in
theorem gX12_set_X12_in : GoodIn wsX12_set (va_wsS RX12 45 yX12_in wsX12_in) := goodIn_app (goodIn_of _ (by decide +kernel)) ggX12_set_X12_in
theorem dX12_set_0 : decode cX12_set 0 = .ok (.iload_n 1, 1) := by decide +kernel
theorem dX12_set_1 : decode cX12_set 1 = .ok (.iconst 0, 1) := by decide +kernel
theorem dX12_set_2 : decode cX12_set 2 = .ok (.iconst 1, 1) := by decide +kernel
theorem dX12_set_3 : decode cX12_set 3 = .ok (.invokestatic 45, 3) := by decide +kernel
theorem dX12_set_6 : decode cX12_set 6 = .ok (.ifCond .ne 5, 3) := by decide +kernel
theorem dX12_set_9 : decode cX12_set 9 = .ok (.iconst (-1), 1) := by decide +kernel
theorem dX12_set_10 : decode cX12_set 10 = .ok (.ireturn, 1) := by decide +kernel
theorem dX12_set_11 : decode cX12_set 11 = .ok (.iload_n 2, 1) := by decide +kernel
theorem dX12_set_12 : decode cX12_set 12 = .ok (.iconst 0, 1) := by decide +kernel
theorem dX12_set_13 : decode cX12_set 13 = .ok (.bipush 9, 2) := by decide +kernel
theorem dX12_set_15 : decode cX12_set 15 = .ok (.invokestatic 45, 3) := by decide +kernel
theorem dX12_set_18 : decode cX12_set 18 = .ok (.ifCond .ne 6, 3) := by decide +kernel
theorem dX12_set_21 : decode cX12_set 21 = .ok (.bipush (-2), 2) := by decide +kernel
theorem dX12_set_23 : decode cX12_set 23 = .ok (.ireturn, 1) := by decide +kernel
theorem dX12_set_24 : decode cX12_set 24 = .ok (.aload_n 0, 1) := by decide +kernel
theorem dX12_set_25 : decode cX12_set 25 = .ok (.getfield 9, 3) := by decide +kernel
theorem dX12_set_28 : decode cX12_set 28 = .ok (.bipush 6, 2) := by decide +kernel
theorem dX12_set_30 : decode cX12_set 30 = .ok (.iload_n 1, 1) := by decide +kernel
theorem dX12_set_31 : decode cX12_set 31 = .ok (.iadd, 1) := by decide +kernel
theorem dX12_set_32 : decode cX12_set 32 = .ok (.iaload, 1) := by decide +kernel
theorem dX12_set_33 : decode cX12_set 33 = .ok (.istore_n 3, 1) := by decide +kernel
theorem dX12_set_34 : decode cX12_set 34 = .ok (.aload_n 0, 1) := by decide +kernel
theorem dX12_set_35 : decode cX12_set 35 = .ok (.getfield 9, 3) := by decide +kernel
theorem dX12_set_38 : decode cX12_set 38 = .ok (.bipush 6, 2) := by decide +kernel
theorem dX12_set_40 : decode cX12_set 40 = .ok (.iload_n 1, 1) := by decide +kernel
theorem dX12_set_41 : decode cX12_set 41 = .ok (.iadd, 1) := by decide +kernel
theorem dX12_set_42 : decode cX12_set 42 = .ok (.iload_n 2, 1) := by decide +kernel
theorem dX12_set_43 : decode cX12_set 43 = .ok (.iastore, 1) := by decide +kernel
theorem dX12_set_44 : decode cX12_set 44 = .ok (.iload_n 3, 1) := by decide +kernel
theorem dX12_set_45 : decode cX12_set 45 = .ok (.ireturn, 1) := by decide +kernel
set_option maxRecDepth 20000 in
theorem ggX12_told_X12_sight : GoodIn wsX12_told wsX12_sight := goodIn_r _ [6, 1, 11, 12, 13, 14, 15, 16, 17, 18, 19, 20, 21, 22, 23, 24, 25, 26, 27, 28, 29, 30, 31, 32, 33] (by decide +kernel) (by decide +kernel)
set_option maxRecDepth 20000 in
theorem gX12_told_X12_sight : GoodIn wsX12_told (wsV RX12 140 RX12 yX12_sight wsX12_sight) := goodIn_app (goodIn_of _ (by decide +kernel)) ggX12_told_X12_sight
set_option maxRecDepth 20000 in
theorem ggX12_told_X12_edgesMany : GoodIn wsX12_told wsX12_edgesMany := goodIn_r _ [10, 1, 11, 12, 13, 14, 15, 16, 17, 18, 19, 20, 21, 22, 23, 24, 25, 26, 27, 28, 29, 30, 31, 32, 33] (by decide +kernel) (by decide +kernel)
set_option maxRecDepth 20000 in
theorem gX12_told_X12_edgesMany : GoodIn wsX12_told (wsV RX12 137 RX12 yX12_edgesMany wsX12_edgesMany) := goodIn_app (goodIn_of _ (by decide +kernel)) ggX12_told_X12_edgesMany
theorem dX12_told_0 : decode cX12_told 0 = .ok (.iload_n 1, 1) := by decide +kernel
theorem dX12_told_1 : decode cX12_told 1 = .ok (.tableswitch 57 0 3 #[31, 39, 47, 52], 31) := by decide +kernel
theorem dX12_told_32 : decode cX12_told 32 = .ok (.aload_n 0, 1) := by decide +kernel
theorem dX12_told_33 : decode cX12_told 33 = .ok (.getfield 9, 3) := by decide +kernel
theorem dX12_told_36 : decode cX12_told 36 = .ok (.bipush 6, 2) := by decide +kernel
theorem dX12_told_38 : decode cX12_told 38 = .ok (.iaload, 1) := by decide +kernel
theorem dX12_told_39 : decode cX12_told 39 = .ok (.ireturn, 1) := by decide +kernel
theorem dX12_told_40 : decode cX12_told 40 = .ok (.aload_n 0, 1) := by decide +kernel
theorem dX12_told_41 : decode cX12_told 41 = .ok (.getfield 9, 3) := by decide +kernel
theorem dX12_told_44 : decode cX12_told 44 = .ok (.bipush 7, 2) := by decide +kernel
theorem dX12_told_46 : decode cX12_told 46 = .ok (.iaload, 1) := by decide +kernel
theorem dX12_told_47 : decode cX12_told 47 = .ok (.ireturn, 1) := by decide +kernel
theorem dX12_told_48 : decode cX12_told 48 = .ok (.aload_n 0, 1) := by decide +kernel
theorem dX12_told_49 : decode cX12_told 49 = .ok (.invokevirtual 140, 3) := by decide +kernel
theorem dX12_told_52 : decode cX12_told 52 = .ok (.ireturn, 1) := by decide +kernel
theorem dX12_told_53 : decode cX12_told 53 = .ok (.aload_n 0, 1) := by decide +kernel
theorem dX12_told_54 : decode cX12_told 54 = .ok (.invokevirtual 137, 3) := by decide +kernel
theorem dX12_told_57 : decode cX12_told 57 = .ok (.ireturn, 1) := by decide +kernel
theorem dX12_told_58 : decode cX12_told 58 = .ok (.iconst (-1), 1) := by decide +kernel
theorem dX12_told_59 : decode cX12_told 59 = .ok (.ireturn, 1) := by decide +kernel
theorem dX12_looks_0 : decode cX12_looks 0 = .ok (.aload_n 0, 1) := by decide +kernel
theorem dX12_looks_1 : decode cX12_looks 1 = .ok (.getfield 18, 3) := by decide +kernel
theorem dX12_looks_4 : decode cX12_looks 4 = .ok (.iconst 0, 1) := by decide +kernel
theorem dX12_looks_5 : decode cX12_looks 5 = .ok (.iload_n 1, 1) := by decide +kernel
theorem dX12_looks_6 : decode cX12_looks 6 = .ok (.iastore, 1) := by decide +kernel
theorem dX12_looks_7 : decode cX12_looks 7 = .ok (.aload_n 0, 1) := by decide +kernel
theorem dX12_looks_8 : decode cX12_looks 8 = .ok (.getfield 18, 3) := by decide +kernel
theorem dX12_looks_11 : decode cX12_looks 11 = .ok (.iconst 1, 1) := by decide +kernel
theorem dX12_looks_12 : decode cX12_looks 12 = .ok (.iload_n 2, 1) := by decide +kernel
theorem dX12_looks_13 : decode cX12_looks 13 = .ok (.iastore, 1) := by decide +kernel
theorem dX12_looks_14 : decode cX12_looks 14 = .ok (.aload_n 0, 1) := by decide +kernel
theorem dX12_looks_15 : decode cX12_looks 15 = .ok (.getfield 18, 3) := by decide +kernel
theorem dX12_looks_18 : decode cX12_looks 18 = .ok (.iconst 2, 1) := by decide +kernel
theorem dX12_looks_19 : decode cX12_looks 19 = .ok (.iload_n 3, 1) := by decide +kernel
theorem dX12_looks_20 : decode cX12_looks 20 = .ok (.bipush 6, 2) := by decide +kernel
theorem dX12_looks_22 : decode cX12_looks 22 = .ok (.idiv, 1) := by decide +kernel
theorem dX12_looks_23 : decode cX12_looks 23 = .ok (.iastore, 1) := by decide +kernel
theorem dX12_looks_24 : decode cX12_looks 24 = .ok (.aload_n 0, 1) := by decide +kernel
theorem dX12_looks_25 : decode cX12_looks 25 = .ok (.getfield 18, 3) := by decide +kernel
theorem dX12_looks_28 : decode cX12_looks 28 = .ok (.iconst 3, 1) := by decide +kernel
theorem dX12_looks_29 : decode cX12_looks 29 = .ok (.iload_n 3, 1) := by decide +kernel
theorem dX12_looks_30 : decode cX12_looks 30 = .ok (.bipush 6, 2) := by decide +kernel
theorem dX12_looks_32 : decode cX12_looks 32 = .ok (.irem, 1) := by decide +kernel
theorem dX12_looks_33 : decode cX12_looks 33 = .ok (.iastore, 1) := by decide +kernel
theorem dX12_looks_34 : decode cX12_looks 34 = .ok (.aload_n 0, 1) := by decide +kernel
theorem dX12_looks_35 : decode cX12_looks 35 = .ok (.getfield 18, 3) := by decide +kernel
theorem dX12_looks_38 : decode cX12_looks 38 = .ok (.iconst 4, 1) := by decide +kernel
theorem dX12_looks_39 : decode cX12_looks 39 = .ok (.aload_n 0, 1) := by decide +kernel
theorem dX12_looks_40 : decode cX12_looks 40 = .ok (.getfield 9, 3) := by decide +kernel
theorem dX12_looks_43 : decode cX12_looks 43 = .ok (.bipush 6, 2) := by decide +kernel
theorem dX12_looks_45 : decode cX12_looks 45 = .ok (.iaload, 1) := by decide +kernel
theorem dX12_looks_46 : decode cX12_looks 46 = .ok (.iastore, 1) := by decide +kernel
theorem dX12_looks_47 : decode cX12_looks 47 = .ok (.aload_n 0, 1) := by decide +kernel
theorem dX12_looks_48 : decode cX12_looks 48 = .ok (.getfield 18, 3) := by decide +kernel
theorem dX12_looks_51 : decode cX12_looks 51 = .ok (.iconst 5, 1) := by decide +kernel
theorem dX12_looks_52 : decode cX12_looks 52 = .ok (.aload_n 0, 1) := by decide +kernel
theorem dX12_looks_53 : decode cX12_looks 53 = .ok (.getfield 9, 3) := by decide +kernel
theorem dX12_looks_56 : decode cX12_looks 56 = .ok (.bipush 7, 2) := by decide +kernel
theorem dX12_looks_58 : decode cX12_looks 58 = .ok (.iaload, 1) := by decide +kernel
theorem dX12_looks_59 : decode cX12_looks 59 = .ok (.iastore, 1) := by decide +kernel
theorem dX12_looks_60 : decode cX12_looks 60 = .ok (.aload_n 0, 1) := by decide +kernel
theorem dX12_looks_61 : decode cX12_looks 61 = .ok (.iconst 0, 1) := by decide +kernel
theorem dX12_looks_62 : decode cX12_looks 62 = .ok (.putfield 143, 3) := by decide +kernel
theorem dX12_looks_65 : decode cX12_looks 65 = .ok (.aload_n 0, 1) := by decide +kernel
theorem dX12_looks_66 : decode cX12_looks 66 = .ok (.iconst 0, 1) := by decide +kernel
theorem dX12_looks_67 : decode cX12_looks 67 = .ok (.putfield 146, 3) := by decide +kernel
theorem dX12_looks_70 : decode cX12_looks 70 = .ok (.aload_n 0, 1) := by decide +kernel
theorem dX12_looks_71 : decode cX12_looks 71 = .ok (.getfield 9, 3) := by decide +kernel
theorem dX12_looks_74 : decode cX12_looks 74 = .ok (.iconst 5, 1) := by decide +kernel
theorem dX12_looks_75 : decode cX12_looks 75 = .ok (.iaload, 1) := by decide +kernel
theorem dX12_looks_76 : decode cX12_looks 76 = .ok (.iconst (-1), 1) := by decide +kernel
theorem dX12_looks_77 : decode cX12_looks 77 = .ok (.if_icmp .ne 7, 3) := by decide +kernel
theorem dX12_looks_80 : decode cX12_looks 80 = .ok (.iconst 0, 1) := by decide +kernel
theorem dX12_looks_81 : decode cX12_looks 81 = .ok (.goto 18, 3) := by decide +kernel
theorem dX12_looks_84 : decode cX12_looks 84 = .ok (.aload_n 0, 1) := by decide +kernel
theorem dX12_looks_85 : decode cX12_looks 85 = .ok (.getfield 9, 3) := by decide +kernel
theorem dX12_looks_88 : decode cX12_looks 88 = .ok (.sipush 196, 3) := by decide +kernel
theorem dX12_looks_91 : decode cX12_looks 91 = .ok (.aload_n 0, 1) := by decide +kernel
theorem dX12_looks_92 : decode cX12_looks 92 = .ok (.getfield 9, 3) := by decide +kernel
theorem dX12_looks_95 : decode cX12_looks 95 = .ok (.iconst 5, 1) := by decide +kernel
theorem dX12_looks_96 : decode cX12_looks 96 = .ok (.iaload, 1) := by decide +kernel
theorem dX12_looks_97 : decode cX12_looks 97 = .ok (.iadd, 1) := by decide +kernel
theorem dX12_looks_98 : decode cX12_looks 98 = .ok (.iaload, 1) := by decide +kernel
theorem dX12_looks_99 : decode cX12_looks 99 = .ok (.istore 4, 2) := by decide +kernel
theorem dX12_looks_101 : decode cX12_looks 101 = .ok (.sipush 201, 3) := by decide +kernel
theorem dX12_looks_104 : decode cX12_looks 104 = .ok (.sipush 140, 3) := by decide +kernel
theorem dX12_looks_107 : decode cX12_looks 107 = .ok (.aload_n 0, 1) := by decide +kernel
theorem dX12_looks_108 : decode cX12_looks 108 = .ok (.getfield 9, 3) := by decide +kernel
theorem dX12_looks_111 : decode cX12_looks 111 = .ok (.iconst 5, 1) := by decide +kernel
theorem dX12_looks_112 : decode cX12_looks 112 = .ok (.iaload, 1) := by decide +kernel
theorem dX12_looks_113 : decode cX12_looks 113 = .ok (.imul, 1) := by decide +kernel
theorem dX12_looks_114 : decode cX12_looks 114 = .ok (.iadd, 1) := by decide +kernel
theorem dX12_looks_115 : decode cX12_looks 115 = .ok (.istore 5, 2) := by decide +kernel
theorem dX12_looks_117 : decode cX12_looks 117 = .ok (.iconst 0, 1) := by decide +kernel
theorem dX12_looks_118 : decode cX12_looks 118 = .ok (.istore 6, 2) := by decide +kernel
theorem dX12_looks_120 : decode cX12_looks 120 = .ok (.iload 5, 2) := by decide +kernel
theorem dX12_looks_122 : decode cX12_looks 122 = .ok (.istore 7, 2) := by decide +kernel
theorem dX12_looks_124 : decode cX12_looks 124 = .ok (.iload 7, 2) := by decide +kernel
theorem dX12_looks_126 : decode cX12_looks 126 = .ok (.iload 5, 2) := by decide +kernel
theorem dX12_looks_128 : decode cX12_looks 128 = .ok (.iload 4, 2) := by decide +kernel
theorem dX12_looks_130 : decode cX12_looks 130 = .ok (.iadd, 1) := by decide +kernel
theorem dX12_looks_131 : decode cX12_looks 131 = .ok (.if_icmp .ge 329, 3) := by decide +kernel
theorem dX12_looks_134 : decode cX12_looks 134 = .ok (.aload_n 0, 1) := by decide +kernel
theorem dX12_looks_135 : decode cX12_looks 135 = .ok (.getfield 9, 3) := by decide +kernel
theorem dX12_looks_138 : decode cX12_looks 138 = .ok (.iload 7, 2) := by decide +kernel
theorem dX12_looks_140 : decode cX12_looks 140 = .ok (.iaload, 1) := by decide +kernel
theorem dX12_looks_141 : decode cX12_looks 141 = .ok (.istore 8, 2) := by decide +kernel
theorem dX12_looks_143 : decode cX12_looks 143 = .ok (.iload 8, 2) := by decide +kernel
theorem dX12_looks_145 : decode cX12_looks 145 = .ok (.ifCond .lt 97, 3) := by decide +kernel
theorem dX12_looks_148 : decode cX12_looks 148 = .ok (.aload_n 0, 1) := by decide +kernel
theorem dX12_looks_149 : decode cX12_looks 149 = .ok (.getfield 18, 3) := by decide +kernel
theorem dX12_looks_152 : decode cX12_looks 152 = .ok (.iload 8, 2) := by decide +kernel
theorem dX12_looks_154 : decode cX12_looks 154 = .ok (.bipush 8, 2) := by decide +kernel
theorem dX12_looks_156 : decode cX12_looks 156 = .ok (.irem, 1) := by decide +kernel
theorem dX12_looks_157 : decode cX12_looks 157 = .ok (.iaload, 1) := by decide +kernel
theorem dX12_looks_158 : decode cX12_looks 158 = .ok (.istore 9, 2) := by decide +kernel
theorem dX12_looks_160 : decode cX12_looks 160 = .ok (.iload 8, 2) := by decide +kernel
theorem dX12_looks_162 : decode cX12_looks 162 = .ok (.bipush 8, 2) := by decide +kernel
theorem dX12_looks_164 : decode cX12_looks 164 = .ok (.idiv, 1) := by decide +kernel
theorem dX12_looks_165 : decode cX12_looks 165 = .ok (.iconst 4, 1) := by decide +kernel
theorem dX12_looks_166 : decode cX12_looks 166 = .ok (.irem, 1) := by decide +kernel
theorem dX12_looks_167 : decode cX12_looks 167 = .ok (.istore 10, 2) := by decide +kernel
theorem dX12_looks_169 : decode cX12_looks 169 = .ok (.iload 8, 2) := by decide +kernel
theorem dX12_looks_171 : decode cX12_looks 171 = .ok (.bipush 32, 2) := by decide +kernel
theorem dX12_looks_173 : decode cX12_looks 173 = .ok (.idiv, 1) := by decide +kernel
theorem dX12_looks_174 : decode cX12_looks 174 = .ok (.istore 11, 2) := by decide +kernel
theorem dX12_looks_176 : decode cX12_looks 176 = .ok (.aload_n 0, 1) := by decide +kernel
theorem dX12_looks_177 : decode cX12_looks 177 = .ok (.getfield 21, 3) := by decide +kernel
theorem dX12_looks_180 : decode cX12_looks 180 = .ok (.iload 6, 2) := by decide +kernel
theorem dX12_looks_182 : decode cX12_looks 182 = .ok (.iload 10, 2) := by decide +kernel
theorem dX12_looks_184 : decode cX12_looks 184 = .ok (.ifCond .ne 18, 3) := by decide +kernel
theorem dX12_looks_187 : decode cX12_looks 187 = .ok (.iload 9, 2) := by decide +kernel
theorem dX12_looks_189 : decode cX12_looks 189 = .ok (.iload 11, 2) := by decide +kernel
theorem dX12_looks_191 : decode cX12_looks 191 = .ok (.if_icmp .ge 7, 3) := by decide +kernel
theorem dX12_looks_194 : decode cX12_looks 194 = .ok (.iconst 1, 1) := by decide +kernel
theorem dX12_looks_195 : decode cX12_looks 195 = .ok (.goto 40, 3) := by decide +kernel
theorem dX12_looks_198 : decode cX12_looks 198 = .ok (.iconst 0, 1) := by decide +kernel
theorem dX12_looks_199 : decode cX12_looks 199 = .ok (.goto 36, 3) := by decide +kernel
theorem dX12_looks_202 : decode cX12_looks 202 = .ok (.iload 10, 2) := by decide +kernel
theorem dX12_looks_204 : decode cX12_looks 204 = .ok (.iconst 1, 1) := by decide +kernel
theorem dX12_looks_205 : decode cX12_looks 205 = .ok (.if_icmp .ne 18, 3) := by decide +kernel
theorem dX12_looks_208 : decode cX12_looks 208 = .ok (.iload 9, 2) := by decide +kernel
theorem dX12_looks_210 : decode cX12_looks 210 = .ok (.iload 11, 2) := by decide +kernel
theorem dX12_looks_212 : decode cX12_looks 212 = .ok (.if_icmp .ne 7, 3) := by decide +kernel
theorem dX12_looks_215 : decode cX12_looks 215 = .ok (.iconst 1, 1) := by decide +kernel
theorem dX12_looks_216 : decode cX12_looks 216 = .ok (.goto 19, 3) := by decide +kernel
theorem dX12_looks_219 : decode cX12_looks 219 = .ok (.iconst 0, 1) := by decide +kernel
theorem dX12_looks_220 : decode cX12_looks 220 = .ok (.goto 15, 3) := by decide +kernel
theorem dX12_looks_223 : decode cX12_looks 223 = .ok (.iload 9, 2) := by decide +kernel
theorem dX12_looks_225 : decode cX12_looks 225 = .ok (.iload 11, 2) := by decide +kernel
theorem dX12_looks_227 : decode cX12_looks 227 = .ok (.if_icmp .le 7, 3) := by decide +kernel
theorem dX12_looks_230 : decode cX12_looks 230 = .ok (.iconst 1, 1) := by decide +kernel
theorem dX12_looks_231 : decode cX12_looks 231 = .ok (.goto 4, 3) := by decide +kernel
theorem dX12_looks_234 : decode cX12_looks 234 = .ok (.iconst 0, 1) := by decide +kernel
theorem dX12_looks_235 : decode cX12_looks 235 = .ok (.bastore, 1) := by decide +kernel
theorem dX12_looks_236 : decode cX12_looks 236 = .ok (.iinc 6 1, 3) := by decide +kernel
theorem dX12_looks_239 : decode cX12_looks 239 = .ok (.goto 215, 3) := by decide +kernel
theorem dX12_looks_242 : decode cX12_looks 242 = .ok (.iload 8, 2) := by decide +kernel
theorem dX12_looks_244 : decode cX12_looks 244 = .ok (.iconst (-1), 1) := by decide +kernel
theorem dX12_looks_245 : decode cX12_looks 245 = .ok (.if_icmp .ne 32, 3) := by decide +kernel
theorem dX12_looks_248 : decode cX12_looks 248 = .ok (.aload_n 0, 1) := by decide +kernel
theorem dX12_looks_249 : decode cX12_looks 249 = .ok (.getfield 21, 3) := by decide +kernel
theorem dX12_looks_252 : decode cX12_looks 252 = .ok (.iload 6, 2) := by decide +kernel
theorem dX12_looks_254 : decode cX12_looks 254 = .ok (.iconst 1, 1) := by decide +kernel
theorem dX12_looks_255 : decode cX12_looks 255 = .ok (.isub, 1) := by decide +kernel
theorem dX12_looks_256 : decode cX12_looks 256 = .ok (.aload_n 0, 1) := by decide +kernel
theorem dX12_looks_257 : decode cX12_looks 257 = .ok (.getfield 21, 3) := by decide +kernel
theorem dX12_looks_260 : decode cX12_looks 260 = .ok (.iload 6, 2) := by decide +kernel
theorem dX12_looks_262 : decode cX12_looks 262 = .ok (.iconst 1, 1) := by decide +kernel
theorem dX12_looks_263 : decode cX12_looks 263 = .ok (.isub, 1) := by decide +kernel
theorem dX12_looks_264 : decode cX12_looks 264 = .ok (.baload, 1) := by decide +kernel
theorem dX12_looks_265 : decode cX12_looks 265 = .ok (.ifCond .ne 7, 3) := by decide +kernel
theorem dX12_looks_268 : decode cX12_looks 268 = .ok (.iconst 1, 1) := by decide +kernel
theorem dX12_looks_269 : decode cX12_looks 269 = .ok (.goto 4, 3) := by decide +kernel
theorem dX12_looks_272 : decode cX12_looks 272 = .ok (.iconst 0, 1) := by decide +kernel
theorem dX12_looks_273 : decode cX12_looks 273 = .ok (.bastore, 1) := by decide +kernel
theorem dX12_looks_274 : decode cX12_looks 274 = .ok (.goto 180, 3) := by decide +kernel
theorem dX12_looks_277 : decode cX12_looks 277 = .ok (.iload 8, 2) := by decide +kernel
theorem dX12_looks_279 : decode cX12_looks 279 = .ok (.bipush (-10), 2) := by decide +kernel
theorem dX12_looks_281 : decode cX12_looks 281 = .ok (.if_icmp .le 82, 3) := by decide +kernel
theorem dX12_looks_284 : decode cX12_looks 284 = .ok (.iinc 6 (-1), 3) := by decide +kernel
theorem dX12_looks_287 : decode cX12_looks 287 = .ok (.aload_n 0, 1) := by decide +kernel
theorem dX12_looks_288 : decode cX12_looks 288 = .ok (.getfield 21, 3) := by decide +kernel
theorem dX12_looks_291 : decode cX12_looks 291 = .ok (.iload 6, 2) := by decide +kernel
theorem dX12_looks_293 : decode cX12_looks 293 = .ok (.iconst 1, 1) := by decide +kernel
theorem dX12_looks_294 : decode cX12_looks 294 = .ok (.isub, 1) := by decide +kernel
theorem dX12_looks_295 : decode cX12_looks 295 = .ok (.iload 8, 2) := by decide +kernel
theorem dX12_looks_297 : decode cX12_looks 297 = .ok (.bipush (-2), 2) := by decide +kernel
theorem dX12_looks_299 : decode cX12_looks 299 = .ok (.if_icmp .ne 33, 3) := by decide +kernel
theorem dX12_looks_302 : decode cX12_looks 302 = .ok (.aload_n 0, 1) := by decide +kernel
theorem dX12_looks_303 : decode cX12_looks 303 = .ok (.getfield 21, 3) := by decide +kernel
theorem dX12_looks_306 : decode cX12_looks 306 = .ok (.iload 6, 2) := by decide +kernel
theorem dX12_looks_308 : decode cX12_looks 308 = .ok (.iconst 1, 1) := by decide +kernel
theorem dX12_looks_309 : decode cX12_looks 309 = .ok (.isub, 1) := by decide +kernel
theorem dX12_looks_310 : decode cX12_looks 310 = .ok (.baload, 1) := by decide +kernel
theorem dX12_looks_311 : decode cX12_looks 311 = .ok (.ifCond .eq 17, 3) := by decide +kernel
theorem dX12_looks_314 : decode cX12_looks 314 = .ok (.aload_n 0, 1) := by decide +kernel
theorem dX12_looks_315 : decode cX12_looks 315 = .ok (.getfield 21, 3) := by decide +kernel
theorem dX12_looks_318 : decode cX12_looks 318 = .ok (.iload 6, 2) := by decide +kernel
theorem dX12_looks_320 : decode cX12_looks 320 = .ok (.baload, 1) := by decide +kernel
theorem dX12_looks_321 : decode cX12_looks 321 = .ok (.ifCond .eq 7, 3) := by decide +kernel
theorem dX12_looks_324 : decode cX12_looks 324 = .ok (.iconst 1, 1) := by decide +kernel
theorem dX12_looks_325 : decode cX12_looks 325 = .ok (.goto 34, 3) := by decide +kernel
theorem dX12_looks_328 : decode cX12_looks 328 = .ok (.iconst 0, 1) := by decide +kernel
theorem dX12_looks_329 : decode cX12_looks 329 = .ok (.goto 30, 3) := by decide +kernel
theorem dX12_looks_332 : decode cX12_looks 332 = .ok (.aload_n 0, 1) := by decide +kernel
theorem dX12_looks_333 : decode cX12_looks 333 = .ok (.getfield 21, 3) := by decide +kernel
theorem dX12_looks_336 : decode cX12_looks 336 = .ok (.iload 6, 2) := by decide +kernel
theorem dX12_looks_338 : decode cX12_looks 338 = .ok (.iconst 1, 1) := by decide +kernel
theorem dX12_looks_339 : decode cX12_looks 339 = .ok (.isub, 1) := by decide +kernel
theorem dX12_looks_340 : decode cX12_looks 340 = .ok (.baload, 1) := by decide +kernel
theorem dX12_looks_341 : decode cX12_looks 341 = .ok (.ifCond .ne 13, 3) := by decide +kernel
theorem dX12_looks_344 : decode cX12_looks 344 = .ok (.aload_n 0, 1) := by decide +kernel
theorem dX12_looks_345 : decode cX12_looks 345 = .ok (.getfield 21, 3) := by decide +kernel
theorem dX12_looks_348 : decode cX12_looks 348 = .ok (.iload 6, 2) := by decide +kernel
theorem dX12_looks_350 : decode cX12_looks 350 = .ok (.baload, 1) := by decide +kernel
theorem dX12_looks_351 : decode cX12_looks 351 = .ok (.ifCond .eq 7, 3) := by decide +kernel
theorem dX12_looks_354 : decode cX12_looks 354 = .ok (.iconst 1, 1) := by decide +kernel
theorem dX12_looks_355 : decode cX12_looks 355 = .ok (.goto 4, 3) := by decide +kernel
theorem dX12_looks_358 : decode cX12_looks 358 = .ok (.iconst 0, 1) := by decide +kernel
theorem dX12_looks_359 : decode cX12_looks 359 = .ok (.bastore, 1) := by decide +kernel
theorem dX12_looks_360 : decode cX12_looks 360 = .ok (.goto 94, 3) := by decide +kernel
theorem dX12_looks_363 : decode cX12_looks 363 = .ok (.iconst 0, 1) := by decide +kernel
theorem dX12_looks_364 : decode cX12_looks 364 = .ok (.istore 6, 2) := by decide +kernel
theorem dX12_looks_366 : decode cX12_looks 366 = .ok (.aload_n 0, 1) := by decide +kernel
theorem dX12_looks_367 : decode cX12_looks 367 = .ok (.getfield 21, 3) := by decide +kernel
theorem dX12_looks_370 : decode cX12_looks 370 = .ok (.iconst 0, 1) := by decide +kernel
theorem dX12_looks_371 : decode cX12_looks 371 = .ok (.baload, 1) := by decide +kernel
theorem dX12_looks_372 : decode cX12_looks 372 = .ok (.istore 9, 2) := by decide +kernel
theorem dX12_looks_374 : decode cX12_looks 374 = .ok (.aload_n 0, 1) := by decide +kernel
theorem dX12_looks_375 : decode cX12_looks 375 = .ok (.dup, 1) := by decide +kernel
theorem dX12_looks_376 : decode cX12_looks 376 = .ok (.getfield 143, 3) := by decide +kernel
theorem dX12_looks_379 : decode cX12_looks 379 = .ok (.iload 9, 2) := by decide +kernel
theorem dX12_looks_381 : decode cX12_looks 381 = .ok (.ifCond .eq 11, 3) := by decide +kernel
theorem dX12_looks_384 : decode cX12_looks 384 = .ok (.iload 8, 2) := by decide +kernel
theorem dX12_looks_386 : decode cX12_looks 386 = .ok (.sipush (-400), 3) := by decide +kernel
theorem dX12_looks_389 : decode cX12_looks 389 = .ok (.if_icmp .gt 7, 3) := by decide +kernel
theorem dX12_looks_392 : decode cX12_looks 392 = .ok (.iconst 0, 1) := by decide +kernel
theorem dX12_looks_393 : decode cX12_looks 393 = .ok (.goto 25, 3) := by decide +kernel
theorem dX12_looks_396 : decode cX12_looks 396 = .ok (.iload 8, 2) := by decide +kernel
theorem dX12_looks_398 : decode cX12_looks 398 = .ok (.sipush (-200), 3) := by decide +kernel
theorem dX12_looks_401 : decode cX12_looks 401 = .ok (.if_icmp .le 11, 3) := by decide +kernel
theorem dX12_looks_404 : decode cX12_looks 404 = .ok (.bipush (-10), 2) := by decide +kernel
theorem dX12_looks_406 : decode cX12_looks 406 = .ok (.iload 8, 2) := by decide +kernel
theorem dX12_looks_408 : decode cX12_looks 408 = .ok (.isub, 1) := by decide +kernel
theorem dX12_looks_409 : decode cX12_looks 409 = .ok (.goto 9, 3) := by decide +kernel
theorem dX12_looks_412 : decode cX12_looks 412 = .ok (.iload 8, 2) := by decide +kernel
theorem dX12_looks_414 : decode cX12_looks 414 = .ok (.sipush (-200), 3) := by decide +kernel
theorem dX12_looks_417 : decode cX12_looks 417 = .ok (.isub, 1) := by decide +kernel
theorem dX12_looks_418 : decode cX12_looks 418 = .ok (.iadd, 1) := by decide +kernel
theorem dX12_looks_419 : decode cX12_looks 419 = .ok (.putfield 143, 3) := by decide +kernel
theorem dX12_looks_422 : decode cX12_looks 422 = .ok (.aload_n 0, 1) := by decide +kernel
theorem dX12_looks_423 : decode cX12_looks 423 = .ok (.dup, 1) := by decide +kernel
theorem dX12_looks_424 : decode cX12_looks 424 = .ok (.getfield 146, 3) := by decide +kernel
theorem dX12_looks_427 : decode cX12_looks 427 = .ok (.iload 9, 2) := by decide +kernel
theorem dX12_looks_429 : decode cX12_looks 429 = .ok (.ifCond .eq 20, 3) := by decide +kernel
theorem dX12_looks_432 : decode cX12_looks 432 = .ok (.iload 8, 2) := by decide +kernel
theorem dX12_looks_434 : decode cX12_looks 434 = .ok (.sipush (-400), 3) := by decide +kernel
theorem dX12_looks_437 : decode cX12_looks 437 = .ok (.if_icmp .gt 12, 3) := by decide +kernel
theorem dX12_looks_440 : decode cX12_looks 440 = .ok (.sipush (-400), 3) := by decide +kernel
theorem dX12_looks_443 : decode cX12_looks 443 = .ok (.iload 8, 2) := by decide +kernel
theorem dX12_looks_445 : decode cX12_looks 445 = .ok (.isub, 1) := by decide +kernel
theorem dX12_looks_446 : decode cX12_looks 446 = .ok (.goto 4, 3) := by decide +kernel
theorem dX12_looks_449 : decode cX12_looks 449 = .ok (.iconst 0, 1) := by decide +kernel
theorem dX12_looks_450 : decode cX12_looks 450 = .ok (.iadd, 1) := by decide +kernel
theorem dX12_looks_451 : decode cX12_looks 451 = .ok (.putfield 146, 3) := by decide +kernel
theorem dX12_looks_454 : decode cX12_looks 454 = .ok (.iinc 7 1, 3) := by decide +kernel
theorem dX12_looks_457 : decode cX12_looks 457 = .ok (.goto (-333), 3) := by decide +kernel
theorem dX12_looks_460 : decode cX12_looks 460 = .ok (.return_, 1) := by decide +kernel
set_option maxRecDepth 20000 in
theorem ggX12_heap_X12_in : GoodIn wsX12_heap wsX12_in := goodIn_r _ [5] (by decide +kernel) (by decide +kernel)
set_option maxRecDepth 20000 in
theorem gX12_heap_X12_in : GoodIn wsX12_heap (va_wsS RX12 45 yX12_in wsX12_in) := goodIn_app (goodIn_of _ (by decide +kernel)) ggX12_heap_X12_in
set_option maxRecDepth 20000 in
theorem ggX12_heap_X12_isCell : GoodIn wsX12_heap wsX12_isCell := goodIn_r _ [8, 2, 3, 4, 5] (by decide +kernel) (by decide +kernel)
set_option maxRecDepth 20000 in
theorem gX12_heap_X12_isCell : GoodIn wsX12_heap (va_wsS RX12 149 yX12_isCell wsX12_isCell) := goodIn_app (goodIn_of _ (by decide +kernel)) ggX12_heap_X12_isCell
set_option maxRecDepth 20000 in
theorem ggX12_heap_X12_heapOn : GoodIn wsX12_heap wsX12_heapOn := goodIn_r _ [12, 1, 17, 18, 19, 20, 21, 22, 23, 24, 25, 26, 27, 28, 29, 30, 31, 32, 33, 34, 35, 36, 37, 38, 39] (by decide +kernel) (by decide +kernel)
set_option maxRecDepth 20000 in
theorem gX12_heap_X12_heapOn : GoodIn wsX12_heap (wsV RX12 153 RX12 yX12_heapOn wsX12_heapOn) := goodIn_app (goodIn_of _ (by decide +kernel)) ggX12_heap_X12_heapOn
set_option maxRecDepth 20000 in
theorem ggX12_heap_X12_puts : GoodIn wsX12_heap wsX12_puts := goodIn_r _ [16, 1, 17, 18, 19, 20, 21, 22, 23, 24, 25, 26, 27, 28, 29, 30, 31, 32, 33, 34, 35, 36, 37, 38, 39] (by decide +kernel) (by decide +kernel)
set_option maxRecDepth 20000 in
theorem gX12_heap_X12_puts : GoodIn wsX12_heap (wsV RX12 156 RX12 yX12_puts wsX12_puts) := goodIn_app (goodIn_of _ (by decide +kernel)) ggX12_heap_X12_puts
theorem dX12_heap_0 : decode cX12_heap 0 = .ok (.iload_n 1, 1) := by decide +kernel
theorem dX12_heap_1 : decode cX12_heap 1 = .ok (.iconst 0, 1) := by decide +kernel
theorem dX12_heap_2 : decode cX12_heap 2 = .ok (.bipush 6, 2) := by decide +kernel
theorem dX12_heap_4 : decode cX12_heap 4 = .ok (.invokestatic 45, 3) := by decide +kernel
theorem dX12_heap_7 : decode cX12_heap 7 = .ok (.ifCond .eq 10, 3) := by decide +kernel
theorem dX12_heap_10 : decode cX12_heap 10 = .ok (.iload_n 3, 1) := by decide +kernel
theorem dX12_heap_11 : decode cX12_heap 11 = .ok (.invokestatic 149, 3) := by decide +kernel
theorem dX12_heap_14 : decode cX12_heap 14 = .ok (.ifCond .ne 5, 3) := by decide +kernel
theorem dX12_heap_17 : decode cX12_heap 17 = .ok (.iconst (-1), 1) := by decide +kernel
theorem dX12_heap_18 : decode cX12_heap 18 = .ok (.ireturn, 1) := by decide +kernel
theorem dX12_heap_19 : decode cX12_heap 19 = .ok (.iload_n 2, 1) := by decide +kernel
theorem dX12_heap_20 : decode cX12_heap 20 = .ok (.iconst 0, 1) := by decide +kernel
theorem dX12_heap_21 : decode cX12_heap 21 = .ok (.bipush 9, 2) := by decide +kernel
theorem dX12_heap_23 : decode cX12_heap 23 = .ok (.invokestatic 45, 3) := by decide +kernel
theorem dX12_heap_26 : decode cX12_heap 26 = .ok (.ifCond .ne 6, 3) := by decide +kernel
theorem dX12_heap_29 : decode cX12_heap 29 = .ok (.bipush (-2), 2) := by decide +kernel
theorem dX12_heap_31 : decode cX12_heap 31 = .ok (.ireturn, 1) := by decide +kernel
theorem dX12_heap_32 : decode cX12_heap 32 = .ok (.aload_n 0, 1) := by decide +kernel
theorem dX12_heap_33 : decode cX12_heap 33 = .ok (.iload_n 3, 1) := by decide +kernel
theorem dX12_heap_34 : decode cX12_heap 34 = .ok (.invokevirtual 153, 3) := by decide +kernel
theorem dX12_heap_37 : decode cX12_heap 37 = .ok (.iconst (-1), 1) := by decide +kernel
theorem dX12_heap_38 : decode cX12_heap 38 = .ok (.if_icmp .eq 6, 3) := by decide +kernel
theorem dX12_heap_41 : decode cX12_heap 41 = .ok (.bipush (-3), 2) := by decide +kernel
theorem dX12_heap_43 : decode cX12_heap 43 = .ok (.ireturn, 1) := by decide +kernel
theorem dX12_heap_44 : decode cX12_heap 44 = .ok (.aload_n 0, 1) := by decide +kernel
theorem dX12_heap_45 : decode cX12_heap 45 = .ok (.getfield 9, 3) := by decide +kernel
theorem dX12_heap_48 : decode cX12_heap 48 = .ok (.iconst 0, 1) := by decide +kernel
theorem dX12_heap_49 : decode cX12_heap 49 = .ok (.iaload, 1) := by decide +kernel
theorem dX12_heap_50 : decode cX12_heap 50 = .ok (.bipush 8, 2) := by decide +kernel
theorem dX12_heap_52 : decode cX12_heap 52 = .ok (.if_icmp .ne 6, 3) := by decide +kernel
theorem dX12_heap_55 : decode cX12_heap 55 = .ok (.bipush (-4), 2) := by decide +kernel
theorem dX12_heap_57 : decode cX12_heap 57 = .ok (.ireturn, 1) := by decide +kernel
theorem dX12_heap_58 : decode cX12_heap 58 = .ok (.aload_n 0, 1) := by decide +kernel
theorem dX12_heap_59 : decode cX12_heap 59 = .ok (.iload_n 1, 1) := by decide +kernel
theorem dX12_heap_60 : decode cX12_heap 60 = .ok (.iload_n 2, 1) := by decide +kernel
theorem dX12_heap_61 : decode cX12_heap 61 = .ok (.iload_n 3, 1) := by decide +kernel
theorem dX12_heap_62 : decode cX12_heap 62 = .ok (.invokevirtual 156, 3) := by decide +kernel
theorem dX12_heap_65 : decode cX12_heap 65 = .ok (.ireturn, 1) := by decide +kernel
theorem dX12_puts_0 : decode cX12_puts 0 = .ok (.aload_n 0, 1) := by decide +kernel
theorem dX12_puts_1 : decode cX12_puts 1 = .ok (.getfield 9, 3) := by decide +kernel
theorem dX12_puts_4 : decode cX12_puts 4 = .ok (.iconst 0, 1) := by decide +kernel
theorem dX12_puts_5 : decode cX12_puts 5 = .ok (.iaload, 1) := by decide +kernel
theorem dX12_puts_6 : decode cX12_puts 6 = .ok (.istore 4, 2) := by decide +kernel
theorem dX12_puts_8 : decode cX12_puts 8 = .ok (.aload_n 0, 1) := by decide +kernel
theorem dX12_puts_9 : decode cX12_puts 9 = .ok (.getfield 9, 3) := by decide +kernel
theorem dX12_puts_12 : decode cX12_puts 12 = .ok (.bipush 10, 2) := by decide +kernel
theorem dX12_puts_14 : decode cX12_puts 14 = .ok (.iload 4, 2) := by decide +kernel
theorem dX12_puts_16 : decode cX12_puts 16 = .ok (.iadd, 1) := by decide +kernel
theorem dX12_puts_17 : decode cX12_puts 17 = .ok (.iload_n 1, 1) := by decide +kernel
theorem dX12_puts_18 : decode cX12_puts 18 = .ok (.iastore, 1) := by decide +kernel
theorem dX12_puts_19 : decode cX12_puts 19 = .ok (.aload_n 0, 1) := by decide +kernel
theorem dX12_puts_20 : decode cX12_puts 20 = .ok (.getfield 9, 3) := by decide +kernel
theorem dX12_puts_23 : decode cX12_puts 23 = .ok (.bipush 19, 2) := by decide +kernel
theorem dX12_puts_25 : decode cX12_puts 25 = .ok (.iload 4, 2) := by decide +kernel
theorem dX12_puts_27 : decode cX12_puts 27 = .ok (.iadd, 1) := by decide +kernel
theorem dX12_puts_28 : decode cX12_puts 28 = .ok (.iload_n 2, 1) := by decide +kernel
theorem dX12_puts_29 : decode cX12_puts 29 = .ok (.iastore, 1) := by decide +kernel
theorem dX12_puts_30 : decode cX12_puts 30 = .ok (.aload_n 0, 1) := by decide +kernel
theorem dX12_puts_31 : decode cX12_puts 31 = .ok (.getfield 9, 3) := by decide +kernel
theorem dX12_puts_34 : decode cX12_puts 34 = .ok (.bipush 28, 2) := by decide +kernel
theorem dX12_puts_36 : decode cX12_puts 36 = .ok (.iload 4, 2) := by decide +kernel
theorem dX12_puts_38 : decode cX12_puts 38 = .ok (.iadd, 1) := by decide +kernel
theorem dX12_puts_39 : decode cX12_puts 39 = .ok (.iload_n 3, 1) := by decide +kernel
theorem dX12_puts_40 : decode cX12_puts 40 = .ok (.iastore, 1) := by decide +kernel
theorem dX12_puts_41 : decode cX12_puts 41 = .ok (.aload_n 0, 1) := by decide +kernel
theorem dX12_puts_42 : decode cX12_puts 42 = .ok (.getfield 9, 3) := by decide +kernel
theorem dX12_puts_45 : decode cX12_puts 45 = .ok (.iconst 0, 1) := by decide +kernel
theorem dX12_puts_46 : decode cX12_puts 46 = .ok (.dup2, 1) := by decide +kernel
theorem dX12_puts_47 : decode cX12_puts 47 = .ok (.iaload, 1) := by decide +kernel
theorem dX12_puts_48 : decode cX12_puts 48 = .ok (.iconst 1, 1) := by decide +kernel
theorem dX12_puts_49 : decode cX12_puts 49 = .ok (.iadd, 1) := by decide +kernel
theorem dX12_puts_50 : decode cX12_puts 50 = .ok (.iastore, 1) := by decide +kernel
theorem dX12_puts_51 : decode cX12_puts 51 = .ok (.iload 4, 2) := by decide +kernel
theorem dX12_puts_53 : decode cX12_puts 53 = .ok (.ireturn, 1) := by decide +kernel
theorem dX12_heapOn_0 : decode cX12_heapOn 0 = .ok (.iconst (-1), 1) := by decide +kernel
theorem dX12_heapOn_1 : decode cX12_heapOn 1 = .ok (.istore_n 2, 1) := by decide +kernel
theorem dX12_heapOn_2 : decode cX12_heapOn 2 = .ok (.iconst 0, 1) := by decide +kernel
theorem dX12_heapOn_3 : decode cX12_heapOn 3 = .ok (.istore_n 3, 1) := by decide +kernel
theorem dX12_heapOn_4 : decode cX12_heapOn 4 = .ok (.iload_n 3, 1) := by decide +kernel
theorem dX12_heapOn_5 : decode cX12_heapOn 5 = .ok (.aload_n 0, 1) := by decide +kernel
theorem dX12_heapOn_6 : decode cX12_heapOn 6 = .ok (.getfield 9, 3) := by decide +kernel
theorem dX12_heapOn_9 : decode cX12_heapOn 9 = .ok (.iconst 0, 1) := by decide +kernel
theorem dX12_heapOn_10 : decode cX12_heapOn 10 = .ok (.iaload, 1) := by decide +kernel
theorem dX12_heapOn_11 : decode cX12_heapOn 11 = .ok (.if_icmp .ge 28, 3) := by decide +kernel
theorem dX12_heapOn_14 : decode cX12_heapOn 14 = .ok (.aload_n 0, 1) := by decide +kernel
theorem dX12_heapOn_15 : decode cX12_heapOn 15 = .ok (.getfield 9, 3) := by decide +kernel
theorem dX12_heapOn_18 : decode cX12_heapOn 18 = .ok (.bipush 28, 2) := by decide +kernel
theorem dX12_heapOn_20 : decode cX12_heapOn 20 = .ok (.iload_n 3, 1) := by decide +kernel
theorem dX12_heapOn_21 : decode cX12_heapOn 21 = .ok (.iadd, 1) := by decide +kernel
theorem dX12_heapOn_22 : decode cX12_heapOn 22 = .ok (.iaload, 1) := by decide +kernel
theorem dX12_heapOn_23 : decode cX12_heapOn 23 = .ok (.iload_n 1, 1) := by decide +kernel
theorem dX12_heapOn_24 : decode cX12_heapOn 24 = .ok (.if_icmp .ne 7, 3) := by decide +kernel
theorem dX12_heapOn_27 : decode cX12_heapOn 27 = .ok (.iload_n 3, 1) := by decide +kernel
theorem dX12_heapOn_28 : decode cX12_heapOn 28 = .ok (.goto 4, 3) := by decide +kernel
theorem dX12_heapOn_31 : decode cX12_heapOn 31 = .ok (.iload_n 2, 1) := by decide +kernel
theorem dX12_heapOn_32 : decode cX12_heapOn 32 = .ok (.istore_n 2, 1) := by decide +kernel
theorem dX12_heapOn_33 : decode cX12_heapOn 33 = .ok (.iinc 3 1, 3) := by decide +kernel
theorem dX12_heapOn_36 : decode cX12_heapOn 36 = .ok (.goto (-32), 3) := by decide +kernel
theorem dX12_heapOn_39 : decode cX12_heapOn 39 = .ok (.iload_n 2, 1) := by decide +kernel
theorem dX12_heapOn_40 : decode cX12_heapOn 40 = .ok (.ireturn, 1) := by decide +kernel
set_option maxRecDepth 20000 in
theorem ggX12_reachOf_X12_looks : GoodIn wsX12_reachOf wsX12_looks := goodIn_r _ [7, 8, 1, 2, 9, 10, 15, 16, 17, 18, 19, 20, 21, 22, 23, 24, 25, 26, 27, 28, 29, 30, 31, 32, 33, 34, 35, 36, 37] (by decide +kernel) (by decide +kernel)
set_option maxRecDepth 20000 in
theorem gX12_reachOf_X12_looks : GoodIn wsX12_reachOf (wsV RX12 160 RX12 yX12_looks wsX12_looks) := goodIn_app (goodIn_of _ (by decide +kernel)) ggX12_reachOf_X12_looks
set_option maxRecDepth 20000 in
theorem ggX12_reachOf_X12_sight : GoodIn wsX12_reachOf wsX12_sight := goodIn_r _ [14, 1, 15, 16, 17, 18, 19, 20, 21, 22, 23, 24, 25, 26, 27, 28, 29, 30, 31, 32, 33, 34, 35, 36, 37] (by decide +kernel) (by decide +kernel)
set_option maxRecDepth 20000 in
theorem gX12_reachOf_X12_sight : GoodIn wsX12_reachOf (wsV RX12 140 RX12 yX12_sight wsX12_sight) := goodIn_app (goodIn_of _ (by decide +kernel)) ggX12_reachOf_X12_sight
theorem dX12_reachOf_0 : decode cX12_reachOf 0 = .ok (.aload_n 0, 1) := by decide +kernel
theorem dX12_reachOf_1 : decode cX12_reachOf 1 = .ok (.getfield 9, 3) := by decide +kernel
theorem dX12_reachOf_4 : decode cX12_reachOf 4 = .ok (.bipush 10, 2) := by decide +kernel
theorem dX12_reachOf_6 : decode cX12_reachOf 6 = .ok (.iload_n 1, 1) := by decide +kernel
theorem dX12_reachOf_7 : decode cX12_reachOf 7 = .ok (.iadd, 1) := by decide +kernel
theorem dX12_reachOf_8 : decode cX12_reachOf 8 = .ok (.iaload, 1) := by decide +kernel
theorem dX12_reachOf_9 : decode cX12_reachOf 9 = .ok (.istore_n 2, 1) := by decide +kernel
theorem dX12_reachOf_10 : decode cX12_reachOf 10 = .ok (.aload_n 0, 1) := by decide +kernel
theorem dX12_reachOf_11 : decode cX12_reachOf 11 = .ok (.getfield 9, 3) := by decide +kernel
theorem dX12_reachOf_14 : decode cX12_reachOf 14 = .ok (.bipush 19, 2) := by decide +kernel
theorem dX12_reachOf_16 : decode cX12_reachOf 16 = .ok (.iload_n 1, 1) := by decide +kernel
theorem dX12_reachOf_17 : decode cX12_reachOf 17 = .ok (.iadd, 1) := by decide +kernel
theorem dX12_reachOf_18 : decode cX12_reachOf 18 = .ok (.iaload, 1) := by decide +kernel
theorem dX12_reachOf_19 : decode cX12_reachOf 19 = .ok (.istore_n 3, 1) := by decide +kernel
theorem dX12_reachOf_20 : decode cX12_reachOf 20 = .ok (.aload_n 0, 1) := by decide +kernel
theorem dX12_reachOf_21 : decode cX12_reachOf 21 = .ok (.iload_n 1, 1) := by decide +kernel
theorem dX12_reachOf_22 : decode cX12_reachOf 22 = .ok (.iload_n 2, 1) := by decide +kernel
theorem dX12_reachOf_23 : decode cX12_reachOf 23 = .ok (.aload_n 0, 1) := by decide +kernel
theorem dX12_reachOf_24 : decode cX12_reachOf 24 = .ok (.getfield 9, 3) := by decide +kernel
theorem dX12_reachOf_27 : decode cX12_reachOf 27 = .ok (.bipush 28, 2) := by decide +kernel
theorem dX12_reachOf_29 : decode cX12_reachOf 29 = .ok (.iload_n 1, 1) := by decide +kernel
theorem dX12_reachOf_30 : decode cX12_reachOf 30 = .ok (.iadd, 1) := by decide +kernel
theorem dX12_reachOf_31 : decode cX12_reachOf 31 = .ok (.iaload, 1) := by decide +kernel
theorem dX12_reachOf_32 : decode cX12_reachOf 32 = .ok (.invokevirtual 160, 3) := by decide +kernel
theorem dX12_reachOf_35 : decode cX12_reachOf 35 = .ok (.aload_n 0, 1) := by decide +kernel
theorem dX12_reachOf_36 : decode cX12_reachOf 36 = .ok (.invokevirtual 140, 3) := by decide +kernel
theorem dX12_reachOf_39 : decode cX12_reachOf 39 = .ok (.aload_n 0, 1) := by decide +kernel
theorem dX12_reachOf_40 : decode cX12_reachOf 40 = .ok (.getfield 143, 3) := by decide +kernel
theorem dX12_reachOf_43 : decode cX12_reachOf 43 = .ok (.iadd, 1) := by decide +kernel
theorem dX12_reachOf_44 : decode cX12_reachOf 44 = .ok (.aload_n 0, 1) := by decide +kernel
theorem dX12_reachOf_45 : decode cX12_reachOf 45 = .ok (.getfield 9, 3) := by decide +kernel
theorem dX12_reachOf_48 : decode cX12_reachOf 48 = .ok (.bipush 6, 2) := by decide +kernel
theorem dX12_reachOf_50 : decode cX12_reachOf 50 = .ok (.iaload, 1) := by decide +kernel
theorem dX12_reachOf_51 : decode cX12_reachOf 51 = .ok (.isub, 1) := by decide +kernel
theorem dX12_reachOf_52 : decode cX12_reachOf 52 = .ok (.istore 4, 2) := by decide +kernel
theorem dX12_reachOf_54 : decode cX12_reachOf 54 = .ok (.iload 4, 2) := by decide +kernel
theorem dX12_reachOf_56 : decode cX12_reachOf 56 = .ok (.iload_n 2, 1) := by decide +kernel
theorem dX12_reachOf_57 : decode cX12_reachOf 57 = .ok (.iconst 1, 1) := by decide +kernel
theorem dX12_reachOf_58 : decode cX12_reachOf 58 = .ok (.if_icmp .eq 8, 3) := by decide +kernel
theorem dX12_reachOf_61 : decode cX12_reachOf 61 = .ok (.iload_n 2, 1) := by decide +kernel
theorem dX12_reachOf_62 : decode cX12_reachOf 62 = .ok (.iconst 4, 1) := by decide +kernel
theorem dX12_reachOf_63 : decode cX12_reachOf 63 = .ok (.if_icmp .ne 9, 3) := by decide +kernel
theorem dX12_reachOf_66 : decode cX12_reachOf 66 = .ok (.iload_n 3, 1) := by decide +kernel
theorem dX12_reachOf_67 : decode cX12_reachOf 67 = .ok (.iconst 3, 1) := by decide +kernel
theorem dX12_reachOf_68 : decode cX12_reachOf 68 = .ok (.idiv, 1) := by decide +kernel
theorem dX12_reachOf_69 : decode cX12_reachOf 69 = .ok (.goto 18, 3) := by decide +kernel
theorem dX12_reachOf_72 : decode cX12_reachOf 72 = .ok (.iload_n 2, 1) := by decide +kernel
theorem dX12_reachOf_73 : decode cX12_reachOf 73 = .ok (.iconst 2, 1) := by decide +kernel
theorem dX12_reachOf_74 : decode cX12_reachOf 74 = .ok (.if_icmp .eq 8, 3) := by decide +kernel
theorem dX12_reachOf_77 : decode cX12_reachOf 77 = .ok (.iload_n 2, 1) := by decide +kernel
theorem dX12_reachOf_78 : decode cX12_reachOf 78 = .ok (.iconst 5, 1) := by decide +kernel
theorem dX12_reachOf_79 : decode cX12_reachOf 79 = .ok (.if_icmp .ne 7, 3) := by decide +kernel
theorem dX12_reachOf_82 : decode cX12_reachOf 82 = .ok (.iconst (-1), 1) := by decide +kernel
theorem dX12_reachOf_83 : decode cX12_reachOf 83 = .ok (.goto 4, 3) := by decide +kernel
theorem dX12_reachOf_86 : decode cX12_reachOf 86 = .ok (.iconst 0, 1) := by decide +kernel
theorem dX12_reachOf_87 : decode cX12_reachOf 87 = .ok (.iadd, 1) := by decide +kernel
theorem dX12_reachOf_88 : decode cX12_reachOf 88 = .ok (.istore 4, 2) := by decide +kernel
theorem dX12_reachOf_90 : decode cX12_reachOf 90 = .ok (.iload 4, 2) := by decide +kernel
theorem dX12_reachOf_92 : decode cX12_reachOf 92 = .ok (.ifCond .lt 19, 3) := by decide +kernel
theorem dX12_reachOf_95 : decode cX12_reachOf 95 = .ok (.iload_n 2, 1) := by decide +kernel
theorem dX12_reachOf_96 : decode cX12_reachOf 96 = .ok (.iconst 5, 1) := by decide +kernel
theorem dX12_reachOf_97 : decode cX12_reachOf 97 = .ok (.if_icmp .ne 18, 3) := by decide +kernel
theorem dX12_reachOf_100 : decode cX12_reachOf 100 = .ok (.aload_n 0, 1) := by decide +kernel
theorem dX12_reachOf_101 : decode cX12_reachOf 101 = .ok (.getfield 9, 3) := by decide +kernel
theorem dX12_reachOf_104 : decode cX12_reachOf 104 = .ok (.bipush 7, 2) := by decide +kernel
theorem dX12_reachOf_106 : decode cX12_reachOf 106 = .ok (.iaload, 1) := by decide +kernel
theorem dX12_reachOf_107 : decode cX12_reachOf 107 = .ok (.iload_n 3, 1) := by decide +kernel
theorem dX12_reachOf_108 : decode cX12_reachOf 108 = .ok (.if_icmp .le 7, 3) := by decide +kernel
theorem dX12_reachOf_111 : decode cX12_reachOf 111 = .ok (.iconst 0, 1) := by decide +kernel
theorem dX12_reachOf_112 : decode cX12_reachOf 112 = .ok (.goto 5, 3) := by decide +kernel
theorem dX12_reachOf_115 : decode cX12_reachOf 115 = .ok (.iload 4, 2) := by decide +kernel
theorem dX12_reachOf_117 : decode cX12_reachOf 117 = .ok (.istore 4, 2) := by decide +kernel
theorem dX12_reachOf_119 : decode cX12_reachOf 119 = .ok (.iload_n 2, 1) := by decide +kernel
theorem dX12_reachOf_120 : decode cX12_reachOf 120 = .ok (.bipush 6, 2) := by decide +kernel
theorem dX12_reachOf_122 : decode cX12_reachOf 122 = .ok (.if_icmp .ne 13, 3) := by decide +kernel
theorem dX12_reachOf_125 : decode cX12_reachOf 125 = .ok (.iload 4, 2) := by decide +kernel
theorem dX12_reachOf_127 : decode cX12_reachOf 127 = .ok (.iconst 1, 1) := by decide +kernel
theorem dX12_reachOf_128 : decode cX12_reachOf 128 = .ok (.if_icmp .le 7, 3) := by decide +kernel
theorem dX12_reachOf_131 : decode cX12_reachOf 131 = .ok (.iconst 1, 1) := by decide +kernel
theorem dX12_reachOf_132 : decode cX12_reachOf 132 = .ok (.goto 5, 3) := by decide +kernel
theorem dX12_reachOf_135 : decode cX12_reachOf 135 = .ok (.iload 4, 2) := by decide +kernel
theorem dX12_reachOf_137 : decode cX12_reachOf 137 = .ok (.ireturn, 1) := by decide +kernel
set_option maxRecDepth 20000 in
theorem ggX12_of_X12_isHeap : GoodIn wsX12_of wsX12_isHeap := goodIn_r _ [6, 1, 7, 8, 5, 9, 26, 27, 28, 29, 30, 31, 32, 33, 34, 35, 36, 37, 38, 39, 40, 41, 42, 43, 44, 45, 46, 47, 48] (by decide +kernel) (by decide +kernel)
set_option maxRecDepth 20000 in
theorem gX12_of_X12_isHeap : GoodIn wsX12_of (wsV RX12 164 RX12 yX12_isHeap wsX12_isHeap) := goodIn_app (goodIn_of _ (by decide +kernel)) ggX12_of_X12_isHeap
set_option maxRecDepth 20000 in
theorem ggX12_of_X12_in : GoodIn wsX12_of wsX12_in := goodIn_r _ [9] (by decide +kernel) (by decide +kernel)
set_option maxRecDepth 20000 in
theorem gX12_of_X12_in : GoodIn wsX12_of (va_wsS RX12 45 yX12_in wsX12_in) := goodIn_app (goodIn_of _ (by decide +kernel)) ggX12_of_X12_in
set_option maxRecDepth 20000 in
theorem ggX12_of_X12_reachOf : GoodIn wsX12_of wsX12_reachOf := goodIn_r _ [13, 1, 14, 15, 16, 17, 5, 18, 19, 20, 21, 22, 23, 24, 25, 26, 27, 28, 29, 30, 31, 32, 33, 34, 35, 36, 37, 38, 39, 40, 41, 42, 43, 44, 45, 46, 47, 48] (by decide +kernel) (by decide +kernel)
set_option maxRecDepth 20000 in
theorem gX12_of_X12_reachOf : GoodIn wsX12_of (wsV RX12 167 RX12 yX12_reachOf wsX12_reachOf) := goodIn_app (goodIn_of _ (by decide +kernel)) ggX12_of_X12_reachOf
theorem dX12_of_0 : decode cX12_of 0 = .ok (.aload_n 0, 1) := by decide +kernel
theorem dX12_of_1 : decode cX12_of 1 = .ok (.iload_n 1, 1) := by decide +kernel
theorem dX12_of_2 : decode cX12_of 2 = .ok (.invokevirtual 164, 3) := by decide +kernel
theorem dX12_of_5 : decode cX12_of 5 = .ok (.ifCond .eq 12, 3) := by decide +kernel
theorem dX12_of_8 : decode cX12_of 8 = .ok (.iload_n 2, 1) := by decide +kernel
theorem dX12_of_9 : decode cX12_of 9 = .ok (.iconst 0, 1) := by decide +kernel
theorem dX12_of_10 : decode cX12_of 10 = .ok (.iconst 3, 1) := by decide +kernel
theorem dX12_of_11 : decode cX12_of 11 = .ok (.invokestatic 45, 3) := by decide +kernel
theorem dX12_of_14 : decode cX12_of 14 = .ok (.ifCond .ne 5, 3) := by decide +kernel
theorem dX12_of_17 : decode cX12_of 17 = .ok (.iconst (-1), 1) := by decide +kernel
theorem dX12_of_18 : decode cX12_of 18 = .ok (.ireturn, 1) := by decide +kernel
theorem dX12_of_19 : decode cX12_of 19 = .ok (.iload_n 2, 1) := by decide +kernel
theorem dX12_of_20 : decode cX12_of 20 = .ok (.iconst 3, 1) := by decide +kernel
theorem dX12_of_21 : decode cX12_of 21 = .ok (.if_icmp .ne 11, 3) := by decide +kernel
theorem dX12_of_24 : decode cX12_of 24 = .ok (.aload_n 0, 1) := by decide +kernel
theorem dX12_of_25 : decode cX12_of 25 = .ok (.iload_n 1, 1) := by decide +kernel
theorem dX12_of_26 : decode cX12_of 26 = .ok (.invokevirtual 167, 3) := by decide +kernel
theorem dX12_of_29 : decode cX12_of 29 = .ok (.goto 17, 3) := by decide +kernel
theorem dX12_of_32 : decode cX12_of 32 = .ok (.aload_n 0, 1) := by decide +kernel
theorem dX12_of_33 : decode cX12_of 33 = .ok (.getfield 9, 3) := by decide +kernel
theorem dX12_of_36 : decode cX12_of 36 = .ok (.bipush 10, 2) := by decide +kernel
theorem dX12_of_38 : decode cX12_of 38 = .ok (.bipush 9, 2) := by decide +kernel
theorem dX12_of_40 : decode cX12_of 40 = .ok (.iload_n 2, 1) := by decide +kernel
theorem dX12_of_41 : decode cX12_of 41 = .ok (.imul, 1) := by decide +kernel
theorem dX12_of_42 : decode cX12_of 42 = .ok (.iadd, 1) := by decide +kernel
theorem dX12_of_43 : decode cX12_of 43 = .ok (.iload_n 1, 1) := by decide +kernel
theorem dX12_of_44 : decode cX12_of 44 = .ok (.iadd, 1) := by decide +kernel
theorem dX12_of_45 : decode cX12_of 45 = .ok (.iaload, 1) := by decide +kernel
theorem dX12_of_46 : decode cX12_of 46 = .ok (.ireturn, 1) := by decide +kernel
set_option maxRecDepth 20000 in
theorem ggX12_isSeen_X12_apart : GoodIn wsX12_isSeen wsX12_apart := goodIn_r _ [5, 6, 7, 4, 8] (by decide +kernel) (by decide +kernel)
set_option maxRecDepth 20000 in
theorem gX12_isSeen_X12_apart : GoodIn wsX12_isSeen (va_wsS RX12 170 yX12_apart wsX12_apart) := goodIn_app (goodIn_of _ (by decide +kernel)) ggX12_isSeen_X12_apart
set_option maxRecDepth 20000 in
theorem ggX12_isSeen_X12_reachOf : GoodIn wsX12_isSeen wsX12_reachOf := goodIn_r _ [12, 1, 13, 14, 15, 16, 4, 17, 18, 19, 20, 21, 22, 23, 24, 25, 26, 27, 28, 29, 30, 31, 32, 33, 34, 35, 36, 37, 38, 39, 40, 41, 42, 43, 44, 45, 46, 47] (by decide +kernel) (by decide +kernel)
set_option maxRecDepth 20000 in
theorem gX12_isSeen_X12_reachOf : GoodIn wsX12_isSeen (wsV RX12 167 RX12 yX12_reachOf wsX12_reachOf) := goodIn_app (goodIn_of _ (by decide +kernel)) ggX12_isSeen_X12_reachOf
theorem dX12_isSeen_0 : decode cX12_isSeen 0 = .ok (.iload_n 2, 1) := by decide +kernel
theorem dX12_isSeen_1 : decode cX12_isSeen 1 = .ok (.aload_n 0, 1) := by decide +kernel
theorem dX12_isSeen_2 : decode cX12_isSeen 2 = .ok (.getfield 9, 3) := by decide +kernel
theorem dX12_isSeen_5 : decode cX12_isSeen 5 = .ok (.bipush 28, 2) := by decide +kernel
theorem dX12_isSeen_7 : decode cX12_isSeen 7 = .ok (.iload_n 1, 1) := by decide +kernel
theorem dX12_isSeen_8 : decode cX12_isSeen 8 = .ok (.iadd, 1) := by decide +kernel
theorem dX12_isSeen_9 : decode cX12_isSeen 9 = .ok (.iaload, 1) := by decide +kernel
theorem dX12_isSeen_10 : decode cX12_isSeen 10 = .ok (.invokestatic 170, 3) := by decide +kernel
theorem dX12_isSeen_13 : decode cX12_isSeen 13 = .ok (.aload_n 0, 1) := by decide +kernel
theorem dX12_isSeen_14 : decode cX12_isSeen 14 = .ok (.iload_n 1, 1) := by decide +kernel
theorem dX12_isSeen_15 : decode cX12_isSeen 15 = .ok (.invokevirtual 167, 3) := by decide +kernel
theorem dX12_isSeen_18 : decode cX12_isSeen 18 = .ok (.if_icmp .gt 7, 3) := by decide +kernel
theorem dX12_isSeen_21 : decode cX12_isSeen 21 = .ok (.iconst 1, 1) := by decide +kernel
theorem dX12_isSeen_22 : decode cX12_isSeen 22 = .ok (.goto 4, 3) := by decide +kernel
theorem dX12_isSeen_25 : decode cX12_isSeen 25 = .ok (.iconst 0, 1) := by decide +kernel
theorem dX12_isSeen_26 : decode cX12_isSeen 26 = .ok (.ireturn, 1) := by decide +kernel
set_option maxRecDepth 20000 in
theorem ggX12_seesOf_X12_isSeen : GoodIn wsX12_seesOf wsX12_isSeen := goodIn_r _ [6, 1, 7, 8, 5, 9, 10, 11, 12, 13, 14, 15, 16, 17, 18, 19, 20, 21, 22, 23, 24, 25, 26, 27, 28, 29, 30, 31, 32, 33, 34, 35, 36, 37, 38, 39, 40, 41, 42, 43, 44, 45, 46, 47, 48, 49, 50, 51] (by decide +kernel) (by decide +kernel)
set_option maxRecDepth 20000 in
theorem gX12_seesOf_X12_isSeen : GoodIn wsX12_seesOf (wsV RX12 174 RX12 yX12_isSeen wsX12_isSeen) := goodIn_app (goodIn_of _ (by decide +kernel)) ggX12_seesOf_X12_isSeen
theorem dX12_seesOf_0 : decode cX12_seesOf 0 = .ok (.iconst 0, 1) := by decide +kernel
theorem dX12_seesOf_1 : decode cX12_seesOf 1 = .ok (.istore_n 2, 1) := by decide +kernel
theorem dX12_seesOf_2 : decode cX12_seesOf 2 = .ok (.iconst 0, 1) := by decide +kernel
theorem dX12_seesOf_3 : decode cX12_seesOf 3 = .ok (.istore_n 3, 1) := by decide +kernel
theorem dX12_seesOf_4 : decode cX12_seesOf 4 = .ok (.iload_n 3, 1) := by decide +kernel
theorem dX12_seesOf_5 : decode cX12_seesOf 5 = .ok (.aload_n 0, 1) := by decide +kernel
theorem dX12_seesOf_6 : decode cX12_seesOf 6 = .ok (.getfield 9, 3) := by decide +kernel
theorem dX12_seesOf_9 : decode cX12_seesOf 9 = .ok (.iconst 0, 1) := by decide +kernel
theorem dX12_seesOf_10 : decode cX12_seesOf 10 = .ok (.iaload, 1) := by decide +kernel
theorem dX12_seesOf_11 : decode cX12_seesOf 11 = .ok (.if_icmp .ge 28, 3) := by decide +kernel
theorem dX12_seesOf_14 : decode cX12_seesOf 14 = .ok (.iload_n 2, 1) := by decide +kernel
theorem dX12_seesOf_15 : decode cX12_seesOf 15 = .ok (.aload_n 0, 1) := by decide +kernel
theorem dX12_seesOf_16 : decode cX12_seesOf 16 = .ok (.iload_n 3, 1) := by decide +kernel
theorem dX12_seesOf_17 : decode cX12_seesOf 17 = .ok (.iload_n 1, 1) := by decide +kernel
theorem dX12_seesOf_18 : decode cX12_seesOf 18 = .ok (.invokevirtual 174, 3) := by decide +kernel
theorem dX12_seesOf_21 : decode cX12_seesOf 21 = .ok (.ifCond .eq 9, 3) := by decide +kernel
theorem dX12_seesOf_24 : decode cX12_seesOf 24 = .ok (.iconst 1, 1) := by decide +kernel
theorem dX12_seesOf_25 : decode cX12_seesOf 25 = .ok (.iload_n 3, 1) := by decide +kernel
theorem dX12_seesOf_26 : decode cX12_seesOf 26 = .ok (.ishl, 1) := by decide +kernel
theorem dX12_seesOf_27 : decode cX12_seesOf 27 = .ok (.goto 4, 3) := by decide +kernel
theorem dX12_seesOf_30 : decode cX12_seesOf 30 = .ok (.iconst 0, 1) := by decide +kernel
theorem dX12_seesOf_31 : decode cX12_seesOf 31 = .ok (.ior, 1) := by decide +kernel
theorem dX12_seesOf_32 : decode cX12_seesOf 32 = .ok (.istore_n 2, 1) := by decide +kernel
theorem dX12_seesOf_33 : decode cX12_seesOf 33 = .ok (.iinc 3 1, 3) := by decide +kernel
theorem dX12_seesOf_36 : decode cX12_seesOf 36 = .ok (.goto (-32), 3) := by decide +kernel
theorem dX12_seesOf_39 : decode cX12_seesOf 39 = .ok (.iload_n 2, 1) := by decide +kernel
theorem dX12_seesOf_40 : decode cX12_seesOf 40 = .ok (.ireturn, 1) := by decide +kernel
set_option maxRecDepth 20000 in
theorem ggX12_sees_X12_isCell : GoodIn wsX12_sees wsX12_isCell := goodIn_r _ [4, 5, 6, 3, 7] (by decide +kernel) (by decide +kernel)
set_option maxRecDepth 20000 in
theorem gX12_sees_X12_isCell : GoodIn wsX12_sees (va_wsS RX12 149 yX12_isCell wsX12_isCell) := goodIn_app (goodIn_of _ (by decide +kernel)) ggX12_sees_X12_isCell
set_option maxRecDepth 20000 in
theorem ggX12_sees_X12_seesOf : GoodIn wsX12_sees wsX12_seesOf := goodIn_r _ [11, 12, 13, 14, 15, 3, 16, 17, 18, 19, 20, 21, 22, 23, 24, 25, 26, 27, 28, 29, 30, 31, 32, 33, 34, 35, 36, 37, 38, 39, 40, 41, 42, 43, 44, 45, 46, 47, 48, 49, 50, 51, 52, 53, 54, 55, 56, 57, 58, 59, 60, 61] (by decide +kernel) (by decide +kernel)
set_option maxRecDepth 20000 in
theorem gX12_sees_X12_seesOf : GoodIn wsX12_sees (wsV RX12 178 RX12 yX12_seesOf wsX12_seesOf) := goodIn_app (goodIn_of _ (by decide +kernel)) ggX12_sees_X12_seesOf
theorem dX12_sees_0 : decode cX12_sees 0 = .ok (.iload_n 1, 1) := by decide +kernel
theorem dX12_sees_1 : decode cX12_sees 1 = .ok (.invokestatic 149, 3) := by decide +kernel
theorem dX12_sees_4 : decode cX12_sees 4 = .ok (.ifCond .eq 11, 3) := by decide +kernel
theorem dX12_sees_7 : decode cX12_sees 7 = .ok (.aload_n 0, 1) := by decide +kernel
theorem dX12_sees_8 : decode cX12_sees 8 = .ok (.iload_n 1, 1) := by decide +kernel
theorem dX12_sees_9 : decode cX12_sees 9 = .ok (.invokevirtual 178, 3) := by decide +kernel
theorem dX12_sees_12 : decode cX12_sees 12 = .ok (.goto 4, 3) := by decide +kernel
theorem dX12_sees_15 : decode cX12_sees 15 = .ok (.iconst (-1), 1) := by decide +kernel
theorem dX12_sees_16 : decode cX12_sees 16 = .ok (.ireturn, 1) := by decide +kernel
set_option maxRecDepth 20000 in
theorem ggX12_where_X12_seesOf : GoodIn wsX12_where wsX12_seesOf := goodIn_r _ [7, 1, 8, 9, 10, 6, 11, 12, 13, 14, 15, 16, 17, 18, 19, 20, 21, 22, 23, 24, 25, 26, 27, 28, 29, 30, 31, 32, 33, 34, 35, 36, 37, 38, 39, 40, 41, 42, 43, 44, 45, 46, 47, 48, 49, 50, 51, 52, 53, 54, 55, 56] (by decide +kernel) (by decide +kernel)
set_option maxRecDepth 20000 in
theorem gX12_where_X12_seesOf : GoodIn wsX12_where (wsV RX12 178 RX12 yX12_seesOf wsX12_seesOf) := goodIn_app (goodIn_of _ (by decide +kernel)) ggX12_where_X12_seesOf
theorem dX12_where_0 : decode cX12_where 0 = .ok (.iload_n 1, 1) := by decide +kernel
theorem dX12_where_1 : decode cX12_where 1 = .ok (.ifCond .lt 14, 3) := by decide +kernel
theorem dX12_where_4 : decode cX12_where 4 = .ok (.iload_n 1, 1) := by decide +kernel
theorem dX12_where_5 : decode cX12_where 5 = .ok (.aload_n 0, 1) := by decide +kernel
theorem dX12_where_6 : decode cX12_where 6 = .ok (.getfield 9, 3) := by decide +kernel
theorem dX12_where_9 : decode cX12_where 9 = .ok (.iconst 0, 1) := by decide +kernel
theorem dX12_where_10 : decode cX12_where 10 = .ok (.iaload, 1) := by decide +kernel
theorem dX12_where_11 : decode cX12_where 11 = .ok (.ishr, 1) := by decide +kernel
theorem dX12_where_12 : decode cX12_where 12 = .ok (.ifCond .eq 7, 3) := by decide +kernel
theorem dX12_where_15 : decode cX12_where 15 = .ok (.ldc2_w 181, 3) := by decide +kernel
theorem dX12_where_18 : decode cX12_where 18 = .ok (.lreturn, 1) := by decide +kernel
theorem dX12_where_19 : decode cX12_where 19 = .ok (.lconst 0, 1) := by decide +kernel
theorem dX12_where_20 : decode cX12_where 20 = .ok (.lstore_n 2, 1) := by decide +kernel
theorem dX12_where_21 : decode cX12_where 21 = .ok (.iconst 0, 1) := by decide +kernel
theorem dX12_where_22 : decode cX12_where 22 = .ok (.istore 4, 2) := by decide +kernel
theorem dX12_where_24 : decode cX12_where 24 = .ok (.iload 4, 2) := by decide +kernel
theorem dX12_where_26 : decode cX12_where 26 = .ok (.bipush 36, 2) := by decide +kernel
theorem dX12_where_28 : decode cX12_where 28 = .ok (.if_icmp .ge 30, 3) := by decide +kernel
theorem dX12_where_31 : decode cX12_where 31 = .ok (.lload_n 2, 1) := by decide +kernel
theorem dX12_where_32 : decode cX12_where 32 = .ok (.aload_n 0, 1) := by decide +kernel
theorem dX12_where_33 : decode cX12_where 33 = .ok (.iload 4, 2) := by decide +kernel
theorem dX12_where_35 : decode cX12_where 35 = .ok (.invokevirtual 178, 3) := by decide +kernel
theorem dX12_where_38 : decode cX12_where 38 = .ok (.iload_n 1, 1) := by decide +kernel
theorem dX12_where_39 : decode cX12_where 39 = .ok (.if_icmp .ne 10, 3) := by decide +kernel
theorem dX12_where_42 : decode cX12_where 42 = .ok (.lconst 1, 1) := by decide +kernel
theorem dX12_where_43 : decode cX12_where 43 = .ok (.iload 4, 2) := by decide +kernel
theorem dX12_where_45 : decode cX12_where 45 = .ok (.lshl, 1) := by decide +kernel
theorem dX12_where_46 : decode cX12_where 46 = .ok (.goto 4, 3) := by decide +kernel
theorem dX12_where_49 : decode cX12_where 49 = .ok (.lconst 0, 1) := by decide +kernel
theorem dX12_where_50 : decode cX12_where 50 = .ok (.lor, 1) := by decide +kernel
theorem dX12_where_51 : decode cX12_where 51 = .ok (.lstore_n 2, 1) := by decide +kernel
theorem dX12_where_52 : decode cX12_where 52 = .ok (.iinc 4 1, 3) := by decide +kernel
theorem dX12_where_55 : decode cX12_where 55 = .ok (.goto (-31), 3) := by decide +kernel
theorem dX12_where_58 : decode cX12_where 58 = .ok (.lload_n 2, 1) := by decide +kernel
theorem dX12_where_59 : decode cX12_where 59 = .ok (.lreturn, 1) := by decide +kernel
theorem dX12_isThatSide_0 : decode cX12_isThatSide 0 = .ok (.iload_n 0, 1) := by decide +kernel
theorem dX12_isThatSide_1 : decode cX12_isThatSide 1 = .ok (.ifCond .eq 21, 3) := by decide +kernel
theorem dX12_isThatSide_4 : decode cX12_isThatSide 4 = .ok (.iload_n 0, 1) := by decide +kernel
theorem dX12_isThatSide_5 : decode cX12_isThatSide 5 = .ok (.ifCond .ge 8, 3) := by decide +kernel
theorem dX12_isThatSide_8 : decode cX12_isThatSide 8 = .ok (.iload_n 2, 1) := by decide +kernel
theorem dX12_isThatSide_9 : decode cX12_isThatSide 9 = .ok (.iload_n 1, 1) := by decide +kernel
theorem dX12_isThatSide_10 : decode cX12_isThatSide 10 = .ok (.if_icmp .lt 12, 3) := by decide +kernel
theorem dX12_isThatSide_13 : decode cX12_isThatSide 13 = .ok (.iload_n 0, 1) := by decide +kernel
theorem dX12_isThatSide_14 : decode cX12_isThatSide 14 = .ok (.ifCond .le 12, 3) := by decide +kernel
theorem dX12_isThatSide_17 : decode cX12_isThatSide 17 = .ok (.iload_n 2, 1) := by decide +kernel
theorem dX12_isThatSide_18 : decode cX12_isThatSide 18 = .ok (.iload_n 1, 1) := by decide +kernel
theorem dX12_isThatSide_19 : decode cX12_isThatSide 19 = .ok (.if_icmp .le 7, 3) := by decide +kernel
theorem dX12_isThatSide_22 : decode cX12_isThatSide 22 = .ok (.iconst 1, 1) := by decide +kernel
theorem dX12_isThatSide_23 : decode cX12_isThatSide 23 = .ok (.goto 4, 3) := by decide +kernel
theorem dX12_isThatSide_26 : decode cX12_isThatSide 26 = .ok (.iconst 0, 1) := by decide +kernel
theorem dX12_isThatSide_27 : decode cX12_isThatSide 27 = .ok (.ireturn, 1) := by decide +kernel
set_option maxRecDepth 20000 in
theorem ggX12_doesGo_X12_isSeen : GoodIn wsX12_doesGo wsX12_isSeen := goodIn_r _ [6, 1, 7, 8, 5, 9, 10, 11, 12, 13, 14, 15, 16, 17, 18, 19, 20, 21, 22, 23, 24, 25, 26, 27, 28, 41, 42, 43, 44, 45, 46, 47, 48, 49, 50, 51, 52, 53, 54, 55, 56, 57, 58, 59, 60, 61, 62, 63] (by decide +kernel) (by decide +kernel)
set_option maxRecDepth 20000 in
theorem gX12_doesGo_X12_isSeen : GoodIn wsX12_doesGo (wsV RX12 174 RX12 yX12_isSeen wsX12_isSeen) := goodIn_app (goodIn_of _ (by decide +kernel)) ggX12_doesGo_X12_isSeen
set_option maxRecDepth 20000 in
theorem ggX12_doesGo_X12_rowsOf : GoodIn wsX12_doesGo wsX12_rowsOf := goodIn_r _ [31] (by decide +kernel) (by decide +kernel)
set_option maxRecDepth 20000 in
theorem gX12_doesGo_X12_rowsOf : GoodIn wsX12_doesGo (va_wsS RX12 53 yX12_rowsOf wsX12_rowsOf) := goodIn_app (goodIn_of _ (by decide +kernel)) ggX12_doesGo_X12_rowsOf
set_option maxRecDepth 20000 in
theorem ggX12_doesGo_X12_isThatSide : GoodIn wsX12_doesGo wsX12_isThatSide := goodIn_r _ [34] (by decide +kernel) (by decide +kernel)
set_option maxRecDepth 20000 in
theorem gX12_doesGo_X12_isThatSide : GoodIn wsX12_doesGo (va_wsS RX12 183 yX12_isThatSide wsX12_isThatSide) := goodIn_app (goodIn_of _ (by decide +kernel)) ggX12_doesGo_X12_isThatSide
set_option maxRecDepth 20000 in
theorem ggX12_doesGo_X12_columnsOf : GoodIn wsX12_doesGo wsX12_columnsOf := goodIn_r _ [37, 38, 39, 5, 40] (by decide +kernel) (by decide +kernel)
set_option maxRecDepth 20000 in
theorem gX12_doesGo_X12_columnsOf : GoodIn wsX12_doesGo (va_wsS RX12 56 yX12_columnsOf wsX12_columnsOf) := goodIn_app (goodIn_of _ (by decide +kernel)) ggX12_doesGo_X12_columnsOf
theorem dX12_doesGo_0 : decode cX12_doesGo 0 = .ok (.aload_n 0, 1) := by decide +kernel
theorem dX12_doesGo_1 : decode cX12_doesGo 1 = .ok (.getfield 9, 3) := by decide +kernel
theorem dX12_doesGo_4 : decode cX12_doesGo 4 = .ok (.bipush 10, 2) := by decide +kernel
theorem dX12_doesGo_6 : decode cX12_doesGo 6 = .ok (.iload_n 1, 1) := by decide +kernel
theorem dX12_doesGo_7 : decode cX12_doesGo 7 = .ok (.iadd, 1) := by decide +kernel
theorem dX12_doesGo_8 : decode cX12_doesGo 8 = .ok (.iaload, 1) := by decide +kernel
theorem dX12_doesGo_9 : decode cX12_doesGo 9 = .ok (.istore_n 3, 1) := by decide +kernel
theorem dX12_doesGo_10 : decode cX12_doesGo 10 = .ok (.iload_n 1, 1) := by decide +kernel
theorem dX12_doesGo_11 : decode cX12_doesGo 11 = .ok (.iload_n 2, 1) := by decide +kernel
theorem dX12_doesGo_12 : decode cX12_doesGo 12 = .ok (.if_icmp .eq 31, 3) := by decide +kernel
theorem dX12_doesGo_15 : decode cX12_doesGo 15 = .ok (.iload_n 3, 1) := by decide +kernel
theorem dX12_doesGo_16 : decode cX12_doesGo 16 = .ok (.iconst 3, 1) := by decide +kernel
theorem dX12_doesGo_17 : decode cX12_doesGo 17 = .ok (.if_icmp .eq 26, 3) := by decide +kernel
theorem dX12_doesGo_20 : decode cX12_doesGo 20 = .ok (.iload_n 3, 1) := by decide +kernel
theorem dX12_doesGo_21 : decode cX12_doesGo 21 = .ok (.bipush 6, 2) := by decide +kernel
theorem dX12_doesGo_23 : decode cX12_doesGo 23 = .ok (.if_icmp .eq 20, 3) := by decide +kernel
theorem dX12_doesGo_26 : decode cX12_doesGo 26 = .ok (.aload_n 0, 1) := by decide +kernel
theorem dX12_doesGo_27 : decode cX12_doesGo 27 = .ok (.iload_n 2, 1) := by decide +kernel
theorem dX12_doesGo_28 : decode cX12_doesGo 28 = .ok (.aload_n 0, 1) := by decide +kernel
theorem dX12_doesGo_29 : decode cX12_doesGo 29 = .ok (.getfield 9, 3) := by decide +kernel
theorem dX12_doesGo_32 : decode cX12_doesGo 32 = .ok (.bipush 28, 2) := by decide +kernel
theorem dX12_doesGo_34 : decode cX12_doesGo 34 = .ok (.iload_n 1, 1) := by decide +kernel
theorem dX12_doesGo_35 : decode cX12_doesGo 35 = .ok (.iadd, 1) := by decide +kernel
theorem dX12_doesGo_36 : decode cX12_doesGo 36 = .ok (.iaload, 1) := by decide +kernel
theorem dX12_doesGo_37 : decode cX12_doesGo 37 = .ok (.invokevirtual 174, 3) := by decide +kernel
theorem dX12_doesGo_40 : decode cX12_doesGo 40 = .ok (.ifCond .ne 5, 3) := by decide +kernel
theorem dX12_doesGo_43 : decode cX12_doesGo 43 = .ok (.iconst 0, 1) := by decide +kernel
theorem dX12_doesGo_44 : decode cX12_doesGo 44 = .ok (.ireturn, 1) := by decide +kernel
theorem dX12_doesGo_45 : decode cX12_doesGo 45 = .ok (.aload_n 0, 1) := by decide +kernel
theorem dX12_doesGo_46 : decode cX12_doesGo 46 = .ok (.getfield 9, 3) := by decide +kernel
theorem dX12_doesGo_49 : decode cX12_doesGo 49 = .ok (.bipush 19, 2) := by decide +kernel
theorem dX12_doesGo_51 : decode cX12_doesGo 51 = .ok (.iload_n 1, 1) := by decide +kernel
theorem dX12_doesGo_52 : decode cX12_doesGo 52 = .ok (.iadd, 1) := by decide +kernel
theorem dX12_doesGo_53 : decode cX12_doesGo 53 = .ok (.iaload, 1) := by decide +kernel
theorem dX12_doesGo_54 : decode cX12_doesGo 54 = .ok (.bipush 8, 2) := by decide +kernel
theorem dX12_doesGo_56 : decode cX12_doesGo 56 = .ok (.irem, 1) := by decide +kernel
theorem dX12_doesGo_57 : decode cX12_doesGo 57 = .ok (.istore 4, 2) := by decide +kernel
theorem dX12_doesGo_59 : decode cX12_doesGo 59 = .ok (.aload_n 0, 1) := by decide +kernel
theorem dX12_doesGo_60 : decode cX12_doesGo 60 = .ok (.getfield 9, 3) := by decide +kernel
theorem dX12_doesGo_63 : decode cX12_doesGo 63 = .ok (.bipush 28, 2) := by decide +kernel
theorem dX12_doesGo_65 : decode cX12_doesGo 65 = .ok (.iload_n 1, 1) := by decide +kernel
theorem dX12_doesGo_66 : decode cX12_doesGo 66 = .ok (.iadd, 1) := by decide +kernel
theorem dX12_doesGo_67 : decode cX12_doesGo 67 = .ok (.iaload, 1) := by decide +kernel
theorem dX12_doesGo_68 : decode cX12_doesGo 68 = .ok (.istore 5, 2) := by decide +kernel
theorem dX12_doesGo_70 : decode cX12_doesGo 70 = .ok (.aload_n 0, 1) := by decide +kernel
theorem dX12_doesGo_71 : decode cX12_doesGo 71 = .ok (.getfield 9, 3) := by decide +kernel
theorem dX12_doesGo_74 : decode cX12_doesGo 74 = .ok (.bipush 28, 2) := by decide +kernel
theorem dX12_doesGo_76 : decode cX12_doesGo 76 = .ok (.iload_n 2, 1) := by decide +kernel
theorem dX12_doesGo_77 : decode cX12_doesGo 77 = .ok (.iadd, 1) := by decide +kernel
theorem dX12_doesGo_78 : decode cX12_doesGo 78 = .ok (.iaload, 1) := by decide +kernel
theorem dX12_doesGo_79 : decode cX12_doesGo 79 = .ok (.istore 6, 2) := by decide +kernel
theorem dX12_doesGo_81 : decode cX12_doesGo 81 = .ok (.iload_n 3, 1) := by decide +kernel
theorem dX12_doesGo_82 : decode cX12_doesGo 82 = .ok (.iconst 4, 1) := by decide +kernel
theorem dX12_doesGo_83 : decode cX12_doesGo 83 = .ok (.if_icmp .ne 45, 3) := by decide +kernel
theorem dX12_doesGo_86 : decode cX12_doesGo 86 = .ok (.iload 4, 2) := by decide +kernel
theorem dX12_doesGo_88 : decode cX12_doesGo 88 = .ok (.invokestatic 53, 3) := by decide +kernel
theorem dX12_doesGo_91 : decode cX12_doesGo 91 = .ok (.iload 5, 2) := by decide +kernel
theorem dX12_doesGo_93 : decode cX12_doesGo 93 = .ok (.bipush 6, 2) := by decide +kernel
theorem dX12_doesGo_95 : decode cX12_doesGo 95 = .ok (.idiv, 1) := by decide +kernel
theorem dX12_doesGo_96 : decode cX12_doesGo 96 = .ok (.iload 6, 2) := by decide +kernel
theorem dX12_doesGo_98 : decode cX12_doesGo 98 = .ok (.bipush 6, 2) := by decide +kernel
theorem dX12_doesGo_100 : decode cX12_doesGo 100 = .ok (.idiv, 1) := by decide +kernel
theorem dX12_doesGo_101 : decode cX12_doesGo 101 = .ok (.invokestatic 183, 3) := by decide +kernel
theorem dX12_doesGo_104 : decode cX12_doesGo 104 = .ok (.ifCond .eq 28, 3) := by decide +kernel
theorem dX12_doesGo_107 : decode cX12_doesGo 107 = .ok (.iload 4, 2) := by decide +kernel
theorem dX12_doesGo_109 : decode cX12_doesGo 109 = .ok (.invokestatic 56, 3) := by decide +kernel
theorem dX12_doesGo_112 : decode cX12_doesGo 112 = .ok (.iload 5, 2) := by decide +kernel
theorem dX12_doesGo_114 : decode cX12_doesGo 114 = .ok (.bipush 6, 2) := by decide +kernel
theorem dX12_doesGo_116 : decode cX12_doesGo 116 = .ok (.irem, 1) := by decide +kernel
theorem dX12_doesGo_117 : decode cX12_doesGo 117 = .ok (.iload 6, 2) := by decide +kernel
theorem dX12_doesGo_119 : decode cX12_doesGo 119 = .ok (.bipush 6, 2) := by decide +kernel
theorem dX12_doesGo_121 : decode cX12_doesGo 121 = .ok (.irem, 1) := by decide +kernel
theorem dX12_doesGo_122 : decode cX12_doesGo 122 = .ok (.invokestatic 183, 3) := by decide +kernel
theorem dX12_doesGo_125 : decode cX12_doesGo 125 = .ok (.ifCond .eq 7, 3) := by decide +kernel
theorem dX12_doesGo_128 : decode cX12_doesGo 128 = .ok (.iconst 1, 1) := by decide +kernel
theorem dX12_doesGo_129 : decode cX12_doesGo 129 = .ok (.goto 4, 3) := by decide +kernel
theorem dX12_doesGo_132 : decode cX12_doesGo 132 = .ok (.iconst 0, 1) := by decide +kernel
theorem dX12_doesGo_133 : decode cX12_doesGo 133 = .ok (.ireturn, 1) := by decide +kernel
set_option maxRecDepth 20000 in
theorem ggX12_looksForGoings_X12_doesGo : GoodIn wsX12_looksForGoings wsX12_doesGo := goodIn_r _ [7, 1, 8, 9, 10, 6, 11, 12, 13, 14, 15, 16, 17, 18, 19, 20, 21, 22, 23, 24, 25, 26, 27, 28, 29, 30, 31, 32, 33, 34, 35, 36, 37, 38, 39, 40, 41, 42, 43, 44, 45, 46, 47, 48, 49, 50, 51, 52, 53, 54, 55, 56, 57, 58, 59, 60, 61, 62, 63, 64, 65, 66, 67, 68] (by decide +kernel) (by decide +kernel)
set_option maxRecDepth 20000 in
theorem gX12_looksForGoings_X12_doesGo : GoodIn wsX12_looksForGoings (wsV RX12 186 RX12 yX12_doesGo wsX12_doesGo) := goodIn_app (goodIn_of _ (by decide +kernel)) ggX12_looksForGoings_X12_doesGo
theorem dX12_looksForGoings_0 : decode cX12_looksForGoings 0 = .ok (.iconst 0, 1) := by decide +kernel
theorem dX12_looksForGoings_1 : decode cX12_looksForGoings 1 = .ok (.istore_n 1, 1) := by decide +kernel
theorem dX12_looksForGoings_2 : decode cX12_looksForGoings 2 = .ok (.iload_n 1, 1) := by decide +kernel
theorem dX12_looksForGoings_3 : decode cX12_looksForGoings 3 = .ok (.aload_n 0, 1) := by decide +kernel
theorem dX12_looksForGoings_4 : decode cX12_looksForGoings 4 = .ok (.getfield 9, 3) := by decide +kernel
theorem dX12_looksForGoings_7 : decode cX12_looksForGoings 7 = .ok (.iconst 0, 1) := by decide +kernel
theorem dX12_looksForGoings_8 : decode cX12_looksForGoings 8 = .ok (.iaload, 1) := by decide +kernel
theorem dX12_looksForGoings_9 : decode cX12_looksForGoings 9 = .ok (.if_icmp .ge 59, 3) := by decide +kernel
theorem dX12_looksForGoings_12 : decode cX12_looksForGoings 12 = .ok (.aload_n 0, 1) := by decide +kernel
theorem dX12_looksForGoings_13 : decode cX12_looksForGoings 13 = .ok (.getfield 25, 3) := by decide +kernel
theorem dX12_looksForGoings_16 : decode cX12_looksForGoings 16 = .ok (.iload_n 1, 1) := by decide +kernel
theorem dX12_looksForGoings_17 : decode cX12_looksForGoings 17 = .ok (.iconst 0, 1) := by decide +kernel
theorem dX12_looksForGoings_18 : decode cX12_looksForGoings 18 = .ok (.iastore, 1) := by decide +kernel
theorem dX12_looksForGoings_19 : decode cX12_looksForGoings 19 = .ok (.iconst 0, 1) := by decide +kernel
theorem dX12_looksForGoings_20 : decode cX12_looksForGoings 20 = .ok (.istore_n 2, 1) := by decide +kernel
theorem dX12_looksForGoings_21 : decode cX12_looksForGoings 21 = .ok (.iload_n 2, 1) := by decide +kernel
theorem dX12_looksForGoings_22 : decode cX12_looksForGoings 22 = .ok (.aload_n 0, 1) := by decide +kernel
theorem dX12_looksForGoings_23 : decode cX12_looksForGoings 23 = .ok (.getfield 9, 3) := by decide +kernel
theorem dX12_looksForGoings_26 : decode cX12_looksForGoings 26 = .ok (.iconst 0, 1) := by decide +kernel
theorem dX12_looksForGoings_27 : decode cX12_looksForGoings 27 = .ok (.iaload, 1) := by decide +kernel
theorem dX12_looksForGoings_28 : decode cX12_looksForGoings 28 = .ok (.if_icmp .ge 34, 3) := by decide +kernel
theorem dX12_looksForGoings_31 : decode cX12_looksForGoings 31 = .ok (.aload_n 0, 1) := by decide +kernel
theorem dX12_looksForGoings_32 : decode cX12_looksForGoings 32 = .ok (.getfield 25, 3) := by decide +kernel
theorem dX12_looksForGoings_35 : decode cX12_looksForGoings 35 = .ok (.iload_n 1, 1) := by decide +kernel
theorem dX12_looksForGoings_36 : decode cX12_looksForGoings 36 = .ok (.dup2, 1) := by decide +kernel
theorem dX12_looksForGoings_37 : decode cX12_looksForGoings 37 = .ok (.iaload, 1) := by decide +kernel
theorem dX12_looksForGoings_38 : decode cX12_looksForGoings 38 = .ok (.aload_n 0, 1) := by decide +kernel
theorem dX12_looksForGoings_39 : decode cX12_looksForGoings 39 = .ok (.iload_n 1, 1) := by decide +kernel
theorem dX12_looksForGoings_40 : decode cX12_looksForGoings 40 = .ok (.iload_n 2, 1) := by decide +kernel
theorem dX12_looksForGoings_41 : decode cX12_looksForGoings 41 = .ok (.invokevirtual 186, 3) := by decide +kernel
theorem dX12_looksForGoings_44 : decode cX12_looksForGoings 44 = .ok (.ifCond .eq 9, 3) := by decide +kernel
theorem dX12_looksForGoings_47 : decode cX12_looksForGoings 47 = .ok (.iconst 1, 1) := by decide +kernel
theorem dX12_looksForGoings_48 : decode cX12_looksForGoings 48 = .ok (.iload_n 2, 1) := by decide +kernel
theorem dX12_looksForGoings_49 : decode cX12_looksForGoings 49 = .ok (.ishl, 1) := by decide +kernel
theorem dX12_looksForGoings_50 : decode cX12_looksForGoings 50 = .ok (.goto 4, 3) := by decide +kernel
theorem dX12_looksForGoings_53 : decode cX12_looksForGoings 53 = .ok (.iconst 0, 1) := by decide +kernel
theorem dX12_looksForGoings_54 : decode cX12_looksForGoings 54 = .ok (.ior, 1) := by decide +kernel
theorem dX12_looksForGoings_55 : decode cX12_looksForGoings 55 = .ok (.iastore, 1) := by decide +kernel
theorem dX12_looksForGoings_56 : decode cX12_looksForGoings 56 = .ok (.iinc 2 1, 3) := by decide +kernel
theorem dX12_looksForGoings_59 : decode cX12_looksForGoings 59 = .ok (.goto (-38), 3) := by decide +kernel
theorem dX12_looksForGoings_62 : decode cX12_looksForGoings 62 = .ok (.iinc 1 1, 3) := by decide +kernel
theorem dX12_looksForGoings_65 : decode cX12_looksForGoings 65 = .ok (.goto (-63), 3) := by decide +kernel
theorem dX12_looksForGoings_68 : decode cX12_looksForGoings 68 = .ok (.return_, 1) := by decide +kernel
theorem dX12_spread_0 : decode cX12_spread 0 = .ok (.iload_n 1, 1) := by decide +kernel
theorem dX12_spread_1 : decode cX12_spread 1 = .ok (.istore_n 2, 1) := by decide +kernel
theorem dX12_spread_2 : decode cX12_spread 2 = .ok (.iconst 0, 1) := by decide +kernel
theorem dX12_spread_3 : decode cX12_spread 3 = .ok (.istore_n 3, 1) := by decide +kernel
theorem dX12_spread_4 : decode cX12_spread 4 = .ok (.iload_n 3, 1) := by decide +kernel
theorem dX12_spread_5 : decode cX12_spread 5 = .ok (.aload_n 0, 1) := by decide +kernel
theorem dX12_spread_6 : decode cX12_spread 6 = .ok (.getfield 9, 3) := by decide +kernel
theorem dX12_spread_9 : decode cX12_spread 9 = .ok (.iconst 0, 1) := by decide +kernel
theorem dX12_spread_10 : decode cX12_spread 10 = .ok (.iaload, 1) := by decide +kernel
theorem dX12_spread_11 : decode cX12_spread 11 = .ok (.if_icmp .ge 31, 3) := by decide +kernel
theorem dX12_spread_14 : decode cX12_spread 14 = .ok (.iload_n 2, 1) := by decide +kernel
theorem dX12_spread_15 : decode cX12_spread 15 = .ok (.iload_n 1, 1) := by decide +kernel
theorem dX12_spread_16 : decode cX12_spread 16 = .ok (.iload_n 3, 1) := by decide +kernel
theorem dX12_spread_17 : decode cX12_spread 17 = .ok (.ishr, 1) := by decide +kernel
theorem dX12_spread_18 : decode cX12_spread 18 = .ok (.iconst 1, 1) := by decide +kernel
theorem dX12_spread_19 : decode cX12_spread 19 = .ok (.iand, 1) := by decide +kernel
theorem dX12_spread_20 : decode cX12_spread 20 = .ok (.iconst 1, 1) := by decide +kernel
theorem dX12_spread_21 : decode cX12_spread 21 = .ok (.if_icmp .ne 12, 3) := by decide +kernel
theorem dX12_spread_24 : decode cX12_spread 24 = .ok (.aload_n 0, 1) := by decide +kernel
theorem dX12_spread_25 : decode cX12_spread 25 = .ok (.getfield 25, 3) := by decide +kernel
theorem dX12_spread_28 : decode cX12_spread 28 = .ok (.iload_n 3, 1) := by decide +kernel
theorem dX12_spread_29 : decode cX12_spread 29 = .ok (.iaload, 1) := by decide +kernel
theorem dX12_spread_30 : decode cX12_spread 30 = .ok (.goto 4, 3) := by decide +kernel
theorem dX12_spread_33 : decode cX12_spread 33 = .ok (.iconst 0, 1) := by decide +kernel
theorem dX12_spread_34 : decode cX12_spread 34 = .ok (.ior, 1) := by decide +kernel
theorem dX12_spread_35 : decode cX12_spread 35 = .ok (.istore_n 2, 1) := by decide +kernel
theorem dX12_spread_36 : decode cX12_spread 36 = .ok (.iinc 3 1, 3) := by decide +kernel
theorem dX12_spread_39 : decode cX12_spread 39 = .ok (.goto (-35), 3) := by decide +kernel
theorem dX12_spread_42 : decode cX12_spread 42 = .ok (.iload_n 2, 1) := by decide +kernel
theorem dX12_spread_43 : decode cX12_spread 43 = .ok (.ireturn, 1) := by decide +kernel
set_option maxRecDepth 20000 in
theorem ggX12_stepsBut_X12_spread : GoodIn wsX12_stepsBut wsX12_spread := goodIn_r _ [5, 6, 7, 8, 9, 10, 11, 12, 13, 14, 15, 16, 17, 18, 19, 20, 21, 22, 23, 24, 25, 26, 27, 28, 29, 30] (by decide +kernel) (by decide +kernel)
set_option maxRecDepth 20000 in
theorem gX12_stepsBut_X12_spread : GoodIn wsX12_stepsBut (wsV RX12 189 RX12 yX12_spread wsX12_spread) := goodIn_app (goodIn_of _ (by decide +kernel)) ggX12_stepsBut_X12_spread
theorem dX12_stepsBut_0 : decode cX12_stepsBut 0 = .ok (.iconst 1, 1) := by decide +kernel
theorem dX12_stepsBut_1 : decode cX12_stepsBut 1 = .ok (.iload_n 1, 1) := by decide +kernel
theorem dX12_stepsBut_2 : decode cX12_stepsBut 2 = .ok (.ishl, 1) := by decide +kernel
theorem dX12_stepsBut_3 : decode cX12_stepsBut 3 = .ok (.istore 4, 2) := by decide +kernel
theorem dX12_stepsBut_5 : decode cX12_stepsBut 5 = .ok (.iconst 0, 1) := by decide +kernel
theorem dX12_stepsBut_6 : decode cX12_stepsBut 6 = .ok (.istore 5, 2) := by decide +kernel
theorem dX12_stepsBut_8 : decode cX12_stepsBut 8 = .ok (.iload 5, 2) := by decide +kernel
theorem dX12_stepsBut_10 : decode cX12_stepsBut 10 = .ok (.bipush 10, 2) := by decide +kernel
theorem dX12_stepsBut_12 : decode cX12_stepsBut 12 = .ok (.if_icmp .ge 34, 3) := by decide +kernel
theorem dX12_stepsBut_15 : decode cX12_stepsBut 15 = .ok (.iload 4, 2) := by decide +kernel
theorem dX12_stepsBut_17 : decode cX12_stepsBut 17 = .ok (.iload_n 2, 1) := by decide +kernel
theorem dX12_stepsBut_18 : decode cX12_stepsBut 18 = .ok (.ishr, 1) := by decide +kernel
theorem dX12_stepsBut_19 : decode cX12_stepsBut 19 = .ok (.iconst 1, 1) := by decide +kernel
theorem dX12_stepsBut_20 : decode cX12_stepsBut 20 = .ok (.iand, 1) := by decide +kernel
theorem dX12_stepsBut_21 : decode cX12_stepsBut 21 = .ok (.iconst 1, 1) := by decide +kernel
theorem dX12_stepsBut_22 : decode cX12_stepsBut 22 = .ok (.if_icmp .ne 6, 3) := by decide +kernel
theorem dX12_stepsBut_25 : decode cX12_stepsBut 25 = .ok (.iload 5, 2) := by decide +kernel
theorem dX12_stepsBut_27 : decode cX12_stepsBut 27 = .ok (.ireturn, 1) := by decide +kernel
theorem dX12_stepsBut_28 : decode cX12_stepsBut 28 = .ok (.aload_n 0, 1) := by decide +kernel
theorem dX12_stepsBut_29 : decode cX12_stepsBut 29 = .ok (.iload 4, 2) := by decide +kernel
theorem dX12_stepsBut_31 : decode cX12_stepsBut 31 = .ok (.invokevirtual 189, 3) := by decide +kernel
theorem dX12_stepsBut_34 : decode cX12_stepsBut 34 = .ok (.iload_n 3, 1) := by decide +kernel
theorem dX12_stepsBut_35 : decode cX12_stepsBut 35 = .ok (.iconst (-1), 1) := by decide +kernel
theorem dX12_stepsBut_36 : decode cX12_stepsBut 36 = .ok (.ixor, 1) := by decide +kernel
theorem dX12_stepsBut_37 : decode cX12_stepsBut 37 = .ok (.iand, 1) := by decide +kernel
theorem dX12_stepsBut_38 : decode cX12_stepsBut 38 = .ok (.istore 4, 2) := by decide +kernel
theorem dX12_stepsBut_40 : decode cX12_stepsBut 40 = .ok (.iinc 5 1, 3) := by decide +kernel
theorem dX12_stepsBut_43 : decode cX12_stepsBut 43 = .ok (.goto (-35), 3) := by decide +kernel
theorem dX12_stepsBut_46 : decode cX12_stepsBut 46 = .ok (.bipush (-5), 2) := by decide +kernel
theorem dX12_stepsBut_48 : decode cX12_stepsBut 48 = .ok (.ireturn, 1) := by decide +kernel
set_option maxRecDepth 20000 in
theorem ggX12_stepsOf_X12_looksForGoings : GoodIn wsX12_stepsOf wsX12_looksForGoings := goodIn_r _ [5, 6, 7, 8, 9, 10, 4, 11, 12, 13, 14, 15, 16, 17, 18, 19, 20, 21, 22, 23, 24, 25, 26, 27, 28, 29, 30, 31, 32, 33, 34, 35, 36, 37, 38, 39, 40, 41, 42, 43, 44, 45, 46, 47, 48, 49, 58, 59, 60, 61, 62, 63, 64, 65, 66, 67, 68, 69, 70, 71, 72, 73, 74, 75, 76, 77, 78, 79, 80] (by decide +kernel) (by decide +kernel)
set_option maxRecDepth 20000 in
theorem gX12_stepsOf_X12_looksForGoings : GoodIn wsX12_stepsOf (wsV RX12 192 RX12 yX12_looksForGoings wsX12_looksForGoings) := goodIn_app (goodIn_of _ (by decide +kernel)) ggX12_stepsOf_X12_looksForGoings
set_option maxRecDepth 20000 in
theorem ggX12_stepsOf_X12_stepsBut : GoodIn wsX12_stepsOf wsX12_stepsBut := goodIn_r _ [53, 54, 55, 56, 4, 57, 6, 7, 58, 59, 60, 61, 62, 63, 64, 65, 66, 67, 68, 69, 70, 71, 72, 73, 74, 75, 76, 77, 78, 79, 80] (by decide +kernel) (by decide +kernel)
set_option maxRecDepth 20000 in
theorem gX12_stepsOf_X12_stepsBut : GoodIn wsX12_stepsOf (wsV RX12 195 RX12 yX12_stepsBut wsX12_stepsBut) := goodIn_app (goodIn_of _ (by decide +kernel)) ggX12_stepsOf_X12_stepsBut
theorem dX12_stepsOf_0 : decode cX12_stepsOf 0 = .ok (.aload_n 0, 1) := by decide +kernel
theorem dX12_stepsOf_1 : decode cX12_stepsOf 1 = .ok (.invokevirtual 192, 3) := by decide +kernel
theorem dX12_stepsOf_4 : decode cX12_stepsOf 4 = .ok (.aload_n 0, 1) := by decide +kernel
theorem dX12_stepsOf_5 : decode cX12_stepsOf 5 = .ok (.iload_n 1, 1) := by decide +kernel
theorem dX12_stepsOf_6 : decode cX12_stepsOf 6 = .ok (.iload_n 2, 1) := by decide +kernel
theorem dX12_stepsOf_7 : decode cX12_stepsOf 7 = .ok (.iconst 0, 1) := by decide +kernel
theorem dX12_stepsOf_8 : decode cX12_stepsOf 8 = .ok (.invokevirtual 195, 3) := by decide +kernel
theorem dX12_stepsOf_11 : decode cX12_stepsOf 11 = .ok (.ireturn, 1) := by decide +kernel
set_option maxRecDepth 20000 in
theorem ggX12_steps_X12_isHeap : GoodIn wsX12_steps wsX12_isHeap := goodIn_r _ [5, 6, 7, 8, 4, 9, 66, 67, 68, 69, 70, 71, 72, 73, 74, 75, 76, 77, 78, 79, 80, 81, 82, 83, 84, 85, 86, 87, 88] (by decide +kernel) (by decide +kernel)
set_option maxRecDepth 20000 in
theorem gX12_steps_X12_isHeap : GoodIn wsX12_steps (wsV RX12 164 RX12 yX12_isHeap wsX12_isHeap) := goodIn_app (goodIn_of _ (by decide +kernel)) ggX12_steps_X12_isHeap
set_option maxRecDepth 20000 in
theorem ggX12_steps_X12_stepsOf : GoodIn wsX12_steps wsX12_stepsOf := goodIn_r _ [13, 14, 15, 16, 4, 17, 6, 18, 19, 20, 21, 22, 23, 24, 25, 26, 27, 28, 29, 30, 31, 32, 33, 34, 35, 36, 37, 38, 39, 40, 41, 42, 43, 44, 45, 46, 47, 48, 49, 50, 51, 52, 53, 54, 55, 56, 57, 7, 8, 9, 58, 59, 60, 61, 62, 63, 64, 65, 66, 67, 68, 69, 70, 71, 72, 73, 74, 75, 76, 77, 78, 79, 80, 81, 82, 83, 84, 85, 86, 87, 88] (by decide +kernel) (by decide +kernel)
set_option maxRecDepth 20000 in
theorem gX12_steps_X12_stepsOf : GoodIn wsX12_steps (wsV RX12 198 RX12 yX12_stepsOf wsX12_stepsOf) := goodIn_app (goodIn_of _ (by decide +kernel)) ggX12_steps_X12_stepsOf
theorem dX12_steps_0 : decode cX12_steps 0 = .ok (.aload_n 0, 1) := by decide +kernel
theorem dX12_steps_1 : decode cX12_steps 1 = .ok (.iload_n 1, 1) := by decide +kernel
theorem dX12_steps_2 : decode cX12_steps 2 = .ok (.invokevirtual 164, 3) := by decide +kernel
theorem dX12_steps_5 : decode cX12_steps 5 = .ok (.ifCond .eq 20, 3) := by decide +kernel
theorem dX12_steps_8 : decode cX12_steps 8 = .ok (.aload_n 0, 1) := by decide +kernel
theorem dX12_steps_9 : decode cX12_steps 9 = .ok (.iload_n 2, 1) := by decide +kernel
theorem dX12_steps_10 : decode cX12_steps 10 = .ok (.invokevirtual 164, 3) := by decide +kernel
theorem dX12_steps_13 : decode cX12_steps 13 = .ok (.ifCond .eq 12, 3) := by decide +kernel
theorem dX12_steps_16 : decode cX12_steps 16 = .ok (.aload_n 0, 1) := by decide +kernel
theorem dX12_steps_17 : decode cX12_steps 17 = .ok (.iload_n 1, 1) := by decide +kernel
theorem dX12_steps_18 : decode cX12_steps 18 = .ok (.iload_n 2, 1) := by decide +kernel
theorem dX12_steps_19 : decode cX12_steps 19 = .ok (.invokevirtual 198, 3) := by decide +kernel
theorem dX12_steps_22 : decode cX12_steps 22 = .ok (.goto 4, 3) := by decide +kernel
theorem dX12_steps_25 : decode cX12_steps 25 = .ok (.iconst (-1), 1) := by decide +kernel
theorem dX12_steps_26 : decode cX12_steps 26 = .ok (.ireturn, 1) := by decide +kernel
set_option maxRecDepth 20000 in
theorem ggX12_via_X12_isHeap : GoodIn wsX12_via wsX12_isHeap := goodIn_r _ [7, 1, 8, 9, 6, 10, 66, 67, 68, 69, 70, 71, 72, 73, 74, 75, 76, 77, 78, 79, 80, 81, 82, 83, 84, 85, 86, 87, 88] (by decide +kernel) (by decide +kernel)
set_option maxRecDepth 20000 in
theorem gX12_via_X12_isHeap : GoodIn wsX12_via (wsV RX12 164 RX12 yX12_isHeap wsX12_isHeap) := goodIn_app (goodIn_of _ (by decide +kernel)) ggX12_via_X12_isHeap
set_option maxRecDepth 20000 in
theorem ggX12_via_X12_stepsOf : GoodIn wsX12_via wsX12_stepsOf := goodIn_r _ [14, 15, 16, 17, 6, 18, 1, 2, 19, 20, 21, 22, 23, 24, 25, 26, 27, 28, 29, 30, 31, 32, 33, 34, 35, 36, 37, 38, 39, 40, 41, 42, 43, 44, 45, 46, 47, 48, 49, 50, 51, 52, 53, 54, 55, 56, 57, 8, 9, 10, 58, 59, 60, 61, 62, 63, 64, 65, 66, 67, 68, 69, 70, 71, 72, 73, 74, 75, 76, 77, 78, 79, 80, 81, 82, 83, 84, 85, 86, 87, 88] (by decide +kernel) (by decide +kernel)
set_option maxRecDepth 20000 in
theorem gX12_via_X12_stepsOf : GoodIn wsX12_via (wsV RX12 198 RX12 yX12_stepsOf wsX12_stepsOf) := goodIn_app (goodIn_of _ (by decide +kernel)) ggX12_via_X12_stepsOf
set_option maxRecDepth 20000 in
theorem ggX12_via_X12_stepsBut : GoodIn wsX12_via wsX12_stepsBut := goodIn_r _ [61, 62, 63, 64, 6, 65, 1, 2, 66, 67, 68, 69, 70, 71, 72, 73, 74, 75, 76, 77, 78, 79, 80, 81, 82, 83, 84, 85, 86, 87, 88] (by decide +kernel) (by decide +kernel)
set_option maxRecDepth 20000 in
theorem gX12_via_X12_stepsBut : GoodIn wsX12_via (wsV RX12 195 RX12 yX12_stepsBut wsX12_stepsBut) := goodIn_app (goodIn_of _ (by decide +kernel)) ggX12_via_X12_stepsBut
theorem dX12_via_0 : decode cX12_via 0 = .ok (.aload_n 0, 1) := by decide +kernel
theorem dX12_via_1 : decode cX12_via 1 = .ok (.iload_n 1, 1) := by decide +kernel
theorem dX12_via_2 : decode cX12_via 2 = .ok (.invokevirtual 164, 3) := by decide +kernel
theorem dX12_via_5 : decode cX12_via 5 = .ok (.ifCond .eq 11, 3) := by decide +kernel
theorem dX12_via_8 : decode cX12_via 8 = .ok (.aload_n 0, 1) := by decide +kernel
theorem dX12_via_9 : decode cX12_via 9 = .ok (.iload_n 2, 1) := by decide +kernel
theorem dX12_via_10 : decode cX12_via 10 = .ok (.invokevirtual 164, 3) := by decide +kernel
theorem dX12_via_13 : decode cX12_via 13 = .ok (.ifCond .ne 5, 3) := by decide +kernel
theorem dX12_via_16 : decode cX12_via 16 = .ok (.iconst (-1), 1) := by decide +kernel
theorem dX12_via_17 : decode cX12_via 17 = .ok (.ireturn, 1) := by decide +kernel
theorem dX12_via_18 : decode cX12_via 18 = .ok (.aload_n 0, 1) := by decide +kernel
theorem dX12_via_19 : decode cX12_via 19 = .ok (.iload_n 1, 1) := by decide +kernel
theorem dX12_via_20 : decode cX12_via 20 = .ok (.iload_n 2, 1) := by decide +kernel
theorem dX12_via_21 : decode cX12_via 21 = .ok (.invokevirtual 198, 3) := by decide +kernel
theorem dX12_via_24 : decode cX12_via 24 = .ok (.istore_n 3, 1) := by decide +kernel
theorem dX12_via_25 : decode cX12_via 25 = .ok (.iconst 0, 1) := by decide +kernel
theorem dX12_via_26 : decode cX12_via 26 = .ok (.istore 4, 2) := by decide +kernel
theorem dX12_via_28 : decode cX12_via 28 = .ok (.iload 4, 2) := by decide +kernel
theorem dX12_via_30 : decode cX12_via 30 = .ok (.aload_n 0, 1) := by decide +kernel
theorem dX12_via_31 : decode cX12_via 31 = .ok (.getfield 9, 3) := by decide +kernel
theorem dX12_via_34 : decode cX12_via 34 = .ok (.iconst 0, 1) := by decide +kernel
theorem dX12_via_35 : decode cX12_via 35 = .ok (.iaload, 1) := by decide +kernel
theorem dX12_via_36 : decode cX12_via 36 = .ok (.if_icmp .ge 45, 3) := by decide +kernel
theorem dX12_via_39 : decode cX12_via 39 = .ok (.iload_n 3, 1) := by decide +kernel
theorem dX12_via_40 : decode cX12_via 40 = .ok (.ifCond .le 41, 3) := by decide +kernel
theorem dX12_via_43 : decode cX12_via 43 = .ok (.aload_n 0, 1) := by decide +kernel
theorem dX12_via_44 : decode cX12_via 44 = .ok (.getfield 25, 3) := by decide +kernel
theorem dX12_via_47 : decode cX12_via 47 = .ok (.iload_n 1, 1) := by decide +kernel
theorem dX12_via_48 : decode cX12_via 48 = .ok (.iaload, 1) := by decide +kernel
theorem dX12_via_49 : decode cX12_via 49 = .ok (.iload 4, 2) := by decide +kernel
theorem dX12_via_51 : decode cX12_via 51 = .ok (.ishr, 1) := by decide +kernel
theorem dX12_via_52 : decode cX12_via 52 = .ok (.iconst 1, 1) := by decide +kernel
theorem dX12_via_53 : decode cX12_via 53 = .ok (.iand, 1) := by decide +kernel
theorem dX12_via_54 : decode cX12_via 54 = .ok (.iconst 1, 1) := by decide +kernel
theorem dX12_via_55 : decode cX12_via 55 = .ok (.if_icmp .ne 20, 3) := by decide +kernel
theorem dX12_via_58 : decode cX12_via 58 = .ok (.aload_n 0, 1) := by decide +kernel
theorem dX12_via_59 : decode cX12_via 59 = .ok (.iload 4, 2) := by decide +kernel
theorem dX12_via_61 : decode cX12_via 61 = .ok (.iload_n 2, 1) := by decide +kernel
theorem dX12_via_62 : decode cX12_via 62 = .ok (.iconst 0, 1) := by decide +kernel
theorem dX12_via_63 : decode cX12_via 63 = .ok (.invokevirtual 195, 3) := by decide +kernel
theorem dX12_via_66 : decode cX12_via 66 = .ok (.iload_n 3, 1) := by decide +kernel
theorem dX12_via_67 : decode cX12_via 67 = .ok (.iconst 1, 1) := by decide +kernel
theorem dX12_via_68 : decode cX12_via 68 = .ok (.isub, 1) := by decide +kernel
theorem dX12_via_69 : decode cX12_via 69 = .ok (.if_icmp .ne 6, 3) := by decide +kernel
theorem dX12_via_72 : decode cX12_via 72 = .ok (.iload 4, 2) := by decide +kernel
theorem dX12_via_74 : decode cX12_via 74 = .ok (.ireturn, 1) := by decide +kernel
theorem dX12_via_75 : decode cX12_via 75 = .ok (.iinc 4 1, 3) := by decide +kernel
theorem dX12_via_78 : decode cX12_via 78 = .ok (.goto (-50), 3) := by decide +kernel
theorem dX12_via_81 : decode cX12_via 81 = .ok (.bipush (-5), 2) := by decide +kernel
theorem dX12_via_83 : decode cX12_via 83 = .ok (.ireturn, 1) := by decide +kernel
set_option maxRecDepth 20000 in
theorem ggX12_cuts_X12_isHeap : GoodIn wsX12_cuts wsX12_isHeap := goodIn_r _ [6, 1, 7, 8, 5, 9, 66, 67, 68, 69, 70, 71, 72, 73, 74, 75, 76, 77, 78, 79, 80, 81, 82, 83, 84, 85, 86, 87, 88] (by decide +kernel) (by decide +kernel)
set_option maxRecDepth 20000 in
theorem gX12_cuts_X12_isHeap : GoodIn wsX12_cuts (wsV RX12 164 RX12 yX12_isHeap wsX12_isHeap) := goodIn_app (goodIn_of _ (by decide +kernel)) ggX12_cuts_X12_isHeap
set_option maxRecDepth 20000 in
theorem ggX12_cuts_X12_stepsOf : GoodIn wsX12_cuts wsX12_stepsOf := goodIn_r _ [13, 14, 15, 16, 5, 17, 1, 18, 19, 20, 21, 22, 23, 24, 25, 26, 27, 28, 29, 30, 31, 32, 33, 34, 35, 36, 37, 38, 39, 40, 41, 42, 43, 44, 45, 46, 47, 48, 49, 50, 51, 52, 53, 54, 55, 56, 57, 7, 8, 9, 58, 59, 60, 61, 62, 63, 64, 65, 66, 67, 68, 69, 70, 71, 72, 73, 74, 75, 76, 77, 78, 79, 80, 81, 82, 83, 84, 85, 86, 87, 88] (by decide +kernel) (by decide +kernel)
set_option maxRecDepth 20000 in
theorem gX12_cuts_X12_stepsOf : GoodIn wsX12_cuts (wsV RX12 198 RX12 yX12_stepsOf wsX12_stepsOf) := goodIn_app (goodIn_of _ (by decide +kernel)) ggX12_cuts_X12_stepsOf
set_option maxRecDepth 20000 in
theorem ggX12_cuts_X12_stepsBut : GoodIn wsX12_cuts wsX12_stepsBut := goodIn_r _ [61, 62, 63, 64, 5, 65, 1, 18, 66, 67, 68, 69, 70, 71, 72, 73, 74, 75, 76, 77, 78, 79, 80, 81, 82, 83, 84, 85, 86, 87, 88] (by decide +kernel) (by decide +kernel)
set_option maxRecDepth 20000 in
theorem gX12_cuts_X12_stepsBut : GoodIn wsX12_cuts (wsV RX12 195 RX12 yX12_stepsBut wsX12_stepsBut) := goodIn_app (goodIn_of _ (by decide +kernel)) ggX12_cuts_X12_stepsBut
theorem dX12_cuts_0 : decode cX12_cuts 0 = .ok (.aload_n 0, 1) := by decide +kernel
theorem dX12_cuts_1 : decode cX12_cuts 1 = .ok (.iload_n 1, 1) := by decide +kernel
theorem dX12_cuts_2 : decode cX12_cuts 2 = .ok (.invokevirtual 164, 3) := by decide +kernel
theorem dX12_cuts_5 : decode cX12_cuts 5 = .ok (.ifCond .eq 11, 3) := by decide +kernel
theorem dX12_cuts_8 : decode cX12_cuts 8 = .ok (.aload_n 0, 1) := by decide +kernel
theorem dX12_cuts_9 : decode cX12_cuts 9 = .ok (.iload_n 2, 1) := by decide +kernel
theorem dX12_cuts_10 : decode cX12_cuts 10 = .ok (.invokevirtual 164, 3) := by decide +kernel
theorem dX12_cuts_13 : decode cX12_cuts 13 = .ok (.ifCond .ne 5, 3) := by decide +kernel
theorem dX12_cuts_16 : decode cX12_cuts 16 = .ok (.iconst (-1), 1) := by decide +kernel
theorem dX12_cuts_17 : decode cX12_cuts 17 = .ok (.ireturn, 1) := by decide +kernel
theorem dX12_cuts_18 : decode cX12_cuts 18 = .ok (.iconst 0, 1) := by decide +kernel
theorem dX12_cuts_19 : decode cX12_cuts 19 = .ok (.istore_n 3, 1) := by decide +kernel
theorem dX12_cuts_20 : decode cX12_cuts 20 = .ok (.aload_n 0, 1) := by decide +kernel
theorem dX12_cuts_21 : decode cX12_cuts 21 = .ok (.iload_n 1, 1) := by decide +kernel
theorem dX12_cuts_22 : decode cX12_cuts 22 = .ok (.iload_n 2, 1) := by decide +kernel
theorem dX12_cuts_23 : decode cX12_cuts 23 = .ok (.invokevirtual 198, 3) := by decide +kernel
theorem dX12_cuts_26 : decode cX12_cuts 26 = .ok (.bipush (-5), 2) := by decide +kernel
theorem dX12_cuts_28 : decode cX12_cuts 28 = .ok (.if_icmp .ne 5, 3) := by decide +kernel
theorem dX12_cuts_31 : decode cX12_cuts 31 = .ok (.iconst 0, 1) := by decide +kernel
theorem dX12_cuts_32 : decode cX12_cuts 32 = .ok (.ireturn, 1) := by decide +kernel
theorem dX12_cuts_33 : decode cX12_cuts 33 = .ok (.iconst 0, 1) := by decide +kernel
theorem dX12_cuts_34 : decode cX12_cuts 34 = .ok (.istore 4, 2) := by decide +kernel
theorem dX12_cuts_36 : decode cX12_cuts 36 = .ok (.iload 4, 2) := by decide +kernel
theorem dX12_cuts_38 : decode cX12_cuts 38 = .ok (.aload_n 0, 1) := by decide +kernel
theorem dX12_cuts_39 : decode cX12_cuts 39 = .ok (.getfield 9, 3) := by decide +kernel
theorem dX12_cuts_42 : decode cX12_cuts 42 = .ok (.iconst 0, 1) := by decide +kernel
theorem dX12_cuts_43 : decode cX12_cuts 43 = .ok (.iaload, 1) := by decide +kernel
theorem dX12_cuts_44 : decode cX12_cuts 44 = .ok (.if_icmp .ge 47, 3) := by decide +kernel
theorem dX12_cuts_47 : decode cX12_cuts 47 = .ok (.iload_n 3, 1) := by decide +kernel
theorem dX12_cuts_48 : decode cX12_cuts 48 = .ok (.iload 4, 2) := by decide +kernel
theorem dX12_cuts_50 : decode cX12_cuts 50 = .ok (.iload_n 1, 1) := by decide +kernel
theorem dX12_cuts_51 : decode cX12_cuts 51 = .ok (.if_icmp .eq 31, 3) := by decide +kernel
theorem dX12_cuts_54 : decode cX12_cuts 54 = .ok (.iload 4, 2) := by decide +kernel
theorem dX12_cuts_56 : decode cX12_cuts 56 = .ok (.iload_n 2, 1) := by decide +kernel
theorem dX12_cuts_57 : decode cX12_cuts 57 = .ok (.if_icmp .eq 25, 3) := by decide +kernel
theorem dX12_cuts_60 : decode cX12_cuts 60 = .ok (.aload_n 0, 1) := by decide +kernel
theorem dX12_cuts_61 : decode cX12_cuts 61 = .ok (.iload_n 1, 1) := by decide +kernel
theorem dX12_cuts_62 : decode cX12_cuts 62 = .ok (.iload_n 2, 1) := by decide +kernel
theorem dX12_cuts_63 : decode cX12_cuts 63 = .ok (.iconst 1, 1) := by decide +kernel
theorem dX12_cuts_64 : decode cX12_cuts 64 = .ok (.iload 4, 2) := by decide +kernel
theorem dX12_cuts_66 : decode cX12_cuts 66 = .ok (.ishl, 1) := by decide +kernel
theorem dX12_cuts_67 : decode cX12_cuts 67 = .ok (.invokevirtual 195, 3) := by decide +kernel
theorem dX12_cuts_70 : decode cX12_cuts 70 = .ok (.bipush (-5), 2) := by decide +kernel
theorem dX12_cuts_72 : decode cX12_cuts 72 = .ok (.if_icmp .ne 10, 3) := by decide +kernel
theorem dX12_cuts_75 : decode cX12_cuts 75 = .ok (.iconst 1, 1) := by decide +kernel
theorem dX12_cuts_76 : decode cX12_cuts 76 = .ok (.iload 4, 2) := by decide +kernel
theorem dX12_cuts_78 : decode cX12_cuts 78 = .ok (.ishl, 1) := by decide +kernel
theorem dX12_cuts_79 : decode cX12_cuts 79 = .ok (.goto 4, 3) := by decide +kernel
theorem dX12_cuts_82 : decode cX12_cuts 82 = .ok (.iconst 0, 1) := by decide +kernel
theorem dX12_cuts_83 : decode cX12_cuts 83 = .ok (.ior, 1) := by decide +kernel
theorem dX12_cuts_84 : decode cX12_cuts 84 = .ok (.istore_n 3, 1) := by decide +kernel
theorem dX12_cuts_85 : decode cX12_cuts 85 = .ok (.iinc 4 1, 3) := by decide +kernel
theorem dX12_cuts_88 : decode cX12_cuts 88 = .ok (.goto (-52), 3) := by decide +kernel
theorem dX12_cuts_91 : decode cX12_cuts 91 = .ok (.iload_n 3, 1) := by decide +kernel
theorem dX12_cuts_92 : decode cX12_cuts 92 = .ok (.ireturn, 1) := by decide +kernel
set_option maxRecDepth 20000 in
theorem ggX12_bears_X12_isHeap : GoodIn wsX12_bears wsX12_isHeap := goodIn_r _ [6, 1, 7, 8, 5, 9, 66, 67, 68, 69, 70, 71, 72, 73, 74, 75, 76, 77, 78, 79, 80, 81, 82, 83, 84, 85, 86, 87, 88] (by decide +kernel) (by decide +kernel)
set_option maxRecDepth 20000 in
theorem gX12_bears_X12_isHeap : GoodIn wsX12_bears (wsV RX12 164 RX12 yX12_isHeap wsX12_isHeap) := goodIn_app (goodIn_of _ (by decide +kernel)) ggX12_bears_X12_isHeap
set_option maxRecDepth 20000 in
theorem ggX12_bears_X12_stepsOf : GoodIn wsX12_bears wsX12_stepsOf := goodIn_r _ [13, 14, 15, 16, 5, 17, 1, 18, 19, 20, 21, 22, 23, 24, 25, 26, 27, 28, 29, 30, 31, 32, 33, 34, 35, 36, 37, 38, 39, 40, 41, 42, 43, 44, 45, 46, 47, 48, 49, 50, 51, 52, 53, 54, 55, 56, 57, 7, 8, 9, 58, 59, 60, 61, 62, 63, 64, 65, 66, 67, 68, 69, 70, 71, 72, 73, 74, 75, 76, 77, 78, 79, 80, 81, 82, 83, 84, 85, 86, 87, 88] (by decide +kernel) (by decide +kernel)
set_option maxRecDepth 20000 in
theorem gX12_bears_X12_stepsOf : GoodIn wsX12_bears (wsV RX12 198 RX12 yX12_stepsOf wsX12_stepsOf) := goodIn_app (goodIn_of _ (by decide +kernel)) ggX12_bears_X12_stepsOf
theorem dX12_bears_0 : decode cX12_bears 0 = .ok (.aload_n 0, 1) := by decide +kernel
theorem dX12_bears_1 : decode cX12_bears 1 = .ok (.iload_n 1, 1) := by decide +kernel
theorem dX12_bears_2 : decode cX12_bears 2 = .ok (.invokevirtual 164, 3) := by decide +kernel
theorem dX12_bears_5 : decode cX12_bears 5 = .ok (.ifCond .eq 11, 3) := by decide +kernel
theorem dX12_bears_8 : decode cX12_bears 8 = .ok (.aload_n 0, 1) := by decide +kernel
theorem dX12_bears_9 : decode cX12_bears 9 = .ok (.iload_n 2, 1) := by decide +kernel
theorem dX12_bears_10 : decode cX12_bears 10 = .ok (.invokevirtual 164, 3) := by decide +kernel
theorem dX12_bears_13 : decode cX12_bears 13 = .ok (.ifCond .ne 5, 3) := by decide +kernel
theorem dX12_bears_16 : decode cX12_bears 16 = .ok (.iconst (-1), 1) := by decide +kernel
theorem dX12_bears_17 : decode cX12_bears 17 = .ok (.ireturn, 1) := by decide +kernel
theorem dX12_bears_18 : decode cX12_bears 18 = .ok (.aload_n 0, 1) := by decide +kernel
theorem dX12_bears_19 : decode cX12_bears 19 = .ok (.getfield 9, 3) := by decide +kernel
theorem dX12_bears_22 : decode cX12_bears 22 = .ok (.bipush 7, 2) := by decide +kernel
theorem dX12_bears_24 : decode cX12_bears 24 = .ok (.iaload, 1) := by decide +kernel
theorem dX12_bears_25 : decode cX12_bears 25 = .ok (.istore_n 3, 1) := by decide +kernel
theorem dX12_bears_26 : decode cX12_bears 26 = .ok (.bipush (-5), 2) := by decide +kernel
theorem dX12_bears_28 : decode cX12_bears 28 = .ok (.istore 4, 2) := by decide +kernel
theorem dX12_bears_30 : decode cX12_bears 30 = .ok (.iconst 0, 1) := by decide +kernel
theorem dX12_bears_31 : decode cX12_bears 31 = .ok (.istore 5, 2) := by decide +kernel
theorem dX12_bears_33 : decode cX12_bears 33 = .ok (.iload 5, 2) := by decide +kernel
theorem dX12_bears_35 : decode cX12_bears 35 = .ok (.bipush 10, 2) := by decide +kernel
theorem dX12_bears_37 : decode cX12_bears 37 = .ok (.if_icmp .ge 38, 3) := by decide +kernel
theorem dX12_bears_40 : decode cX12_bears 40 = .ok (.aload_n 0, 1) := by decide +kernel
theorem dX12_bears_41 : decode cX12_bears 41 = .ok (.getfield 9, 3) := by decide +kernel
theorem dX12_bears_44 : decode cX12_bears 44 = .ok (.bipush 7, 2) := by decide +kernel
theorem dX12_bears_46 : decode cX12_bears 46 = .ok (.iload 5, 2) := by decide +kernel
theorem dX12_bears_48 : decode cX12_bears 48 = .ok (.iastore, 1) := by decide +kernel
theorem dX12_bears_49 : decode cX12_bears 49 = .ok (.aload_n 0, 1) := by decide +kernel
theorem dX12_bears_50 : decode cX12_bears 50 = .ok (.iload_n 1, 1) := by decide +kernel
theorem dX12_bears_51 : decode cX12_bears 51 = .ok (.iload_n 2, 1) := by decide +kernel
theorem dX12_bears_52 : decode cX12_bears 52 = .ok (.invokevirtual 198, 3) := by decide +kernel
theorem dX12_bears_55 : decode cX12_bears 55 = .ok (.bipush (-5), 2) := by decide +kernel
theorem dX12_bears_57 : decode cX12_bears 57 = .ok (.if_icmp .ne 8, 3) := by decide +kernel
theorem dX12_bears_60 : decode cX12_bears 60 = .ok (.iload 4, 2) := by decide +kernel
theorem dX12_bears_62 : decode cX12_bears 62 = .ok (.goto 5, 3) := by decide +kernel
theorem dX12_bears_65 : decode cX12_bears 65 = .ok (.iload 5, 2) := by decide +kernel
theorem dX12_bears_67 : decode cX12_bears 67 = .ok (.istore 4, 2) := by decide +kernel
theorem dX12_bears_69 : decode cX12_bears 69 = .ok (.iinc 5 1, 3) := by decide +kernel
theorem dX12_bears_72 : decode cX12_bears 72 = .ok (.goto (-39), 3) := by decide +kernel
theorem dX12_bears_75 : decode cX12_bears 75 = .ok (.aload_n 0, 1) := by decide +kernel
theorem dX12_bears_76 : decode cX12_bears 76 = .ok (.getfield 9, 3) := by decide +kernel
theorem dX12_bears_79 : decode cX12_bears 79 = .ok (.bipush 7, 2) := by decide +kernel
theorem dX12_bears_81 : decode cX12_bears 81 = .ok (.iload_n 3, 1) := by decide +kernel
theorem dX12_bears_82 : decode cX12_bears 82 = .ok (.iastore, 1) := by decide +kernel
theorem dX12_bears_83 : decode cX12_bears 83 = .ok (.iload 4, 2) := by decide +kernel
theorem dX12_bears_85 : decode cX12_bears 85 = .ok (.ireturn, 1) := by decide +kernel
set_option maxRecDepth 20000 in
theorem ggX12_build_X12_isHeap : GoodIn wsX12_build wsX12_isHeap := goodIn_r _ [6, 1, 7, 8, 5, 9, 74, 75, 76, 77, 78, 79, 80, 81, 82, 83, 84, 85, 86, 87, 88, 89, 90, 91, 92, 93, 94, 95, 96] (by decide +kernel) (by decide +kernel)
set_option maxRecDepth 20000 in
theorem gX12_build_X12_isHeap : GoodIn wsX12_build (wsV RX12 164 RX12 yX12_isHeap wsX12_isHeap) := goodIn_app (goodIn_of _ (by decide +kernel)) ggX12_build_X12_isHeap
set_option maxRecDepth 20000 in
theorem ggX12_build_X12_in : GoodIn wsX12_build wsX12_in := goodIn_r _ [9] (by decide +kernel) (by decide +kernel)
set_option maxRecDepth 20000 in
theorem gX12_build_X12_in : GoodIn wsX12_build (va_wsS RX12 45 yX12_in wsX12_in) := goodIn_app (goodIn_of _ (by decide +kernel)) ggX12_build_X12_in
set_option maxRecDepth 20000 in
theorem ggX12_build_X12_stepsOf : GoodIn wsX12_build wsX12_stepsOf := goodIn_r _ [13, 14, 15, 16, 5, 17, 1, 18, 19, 20, 21, 22, 23, 24, 25, 26, 27, 28, 29, 30, 31, 32, 33, 34, 35, 36, 37, 38, 39, 40, 41, 42, 43, 44, 45, 46, 47, 48, 49, 50, 51, 52, 53, 54, 55, 56, 57, 7, 8, 9, 58, 59, 60, 61, 62, 63, 64, 65, 74, 75, 76, 77, 78, 79, 80, 81, 82, 83, 84, 85, 86, 87, 88, 89, 90, 91, 92, 93, 94, 95, 96] (by decide +kernel) (by decide +kernel)
set_option maxRecDepth 20000 in
theorem gX12_build_X12_stepsOf : GoodIn wsX12_build (wsV RX12 198 RX12 yX12_stepsOf wsX12_stepsOf) := goodIn_app (goodIn_of _ (by decide +kernel)) ggX12_build_X12_stepsOf
set_option maxRecDepth 20000 in
theorem ggX12_build_X12_heapOn : GoodIn wsX12_build wsX12_heapOn := goodIn_r _ [69, 1, 74, 75, 76, 77, 78, 79, 80, 81, 82, 83, 84, 85, 86, 87, 88, 89, 90, 91, 92, 93, 94, 95, 96] (by decide +kernel) (by decide +kernel)
set_option maxRecDepth 20000 in
theorem gX12_build_X12_heapOn : GoodIn wsX12_build (wsV RX12 153 RX12 yX12_heapOn wsX12_heapOn) := goodIn_app (goodIn_of _ (by decide +kernel)) ggX12_build_X12_heapOn
set_option maxRecDepth 20000 in
theorem ggX12_build_X12_puts : GoodIn wsX12_build wsX12_puts := goodIn_r _ [73, 1, 74, 75, 76, 77, 78, 79, 80, 81, 82, 83, 84, 85, 86, 87, 88, 89, 90, 91, 92, 93, 94, 95, 96] (by decide +kernel) (by decide +kernel)
set_option maxRecDepth 20000 in
theorem gX12_build_X12_puts : GoodIn wsX12_build (wsV RX12 156 RX12 yX12_puts wsX12_puts) := goodIn_app (goodIn_of _ (by decide +kernel)) ggX12_build_X12_puts
theorem dX12_build_0 : decode cX12_build 0 = .ok (.aload_n 0, 1) := by decide +kernel
theorem dX12_build_1 : decode cX12_build 1 = .ok (.iload_n 1, 1) := by decide +kernel
theorem dX12_build_2 : decode cX12_build 2 = .ok (.invokevirtual 164, 3) := by decide +kernel
theorem dX12_build_5 : decode cX12_build 5 = .ok (.ifCond .eq 20, 3) := by decide +kernel
theorem dX12_build_8 : decode cX12_build 8 = .ok (.aload_n 0, 1) := by decide +kernel
theorem dX12_build_9 : decode cX12_build 9 = .ok (.iload_n 2, 1) := by decide +kernel
theorem dX12_build_10 : decode cX12_build 10 = .ok (.invokevirtual 164, 3) := by decide +kernel
theorem dX12_build_13 : decode cX12_build 13 = .ok (.ifCond .eq 12, 3) := by decide +kernel
theorem dX12_build_16 : decode cX12_build 16 = .ok (.iload_n 3, 1) := by decide +kernel
theorem dX12_build_17 : decode cX12_build 17 = .ok (.iconst 0, 1) := by decide +kernel
theorem dX12_build_18 : decode cX12_build 18 = .ok (.iconst 1, 1) := by decide +kernel
theorem dX12_build_19 : decode cX12_build 19 = .ok (.invokestatic 45, 3) := by decide +kernel
theorem dX12_build_22 : decode cX12_build 22 = .ok (.ifCond .ne 5, 3) := by decide +kernel
theorem dX12_build_25 : decode cX12_build 25 = .ok (.iconst (-1), 1) := by decide +kernel
theorem dX12_build_26 : decode cX12_build 26 = .ok (.ireturn, 1) := by decide +kernel
theorem dX12_build_27 : decode cX12_build 27 = .ok (.aload_n 0, 1) := by decide +kernel
theorem dX12_build_28 : decode cX12_build 28 = .ok (.getfield 9, 3) := by decide +kernel
theorem dX12_build_31 : decode cX12_build 31 = .ok (.iconst 0, 1) := by decide +kernel
theorem dX12_build_32 : decode cX12_build 32 = .ok (.iaload, 1) := by decide +kernel
theorem dX12_build_33 : decode cX12_build 33 = .ok (.bipush 8, 2) := by decide +kernel
theorem dX12_build_35 : decode cX12_build 35 = .ok (.if_icmp .ne 6, 3) := by decide +kernel
theorem dX12_build_38 : decode cX12_build 38 = .ok (.bipush (-5), 2) := by decide +kernel
theorem dX12_build_40 : decode cX12_build 40 = .ok (.ireturn, 1) := by decide +kernel
theorem dX12_build_41 : decode cX12_build 41 = .ok (.aload_n 0, 1) := by decide +kernel
theorem dX12_build_42 : decode cX12_build 42 = .ok (.iload_n 1, 1) := by decide +kernel
theorem dX12_build_43 : decode cX12_build 43 = .ok (.iload_n 2, 1) := by decide +kernel
theorem dX12_build_44 : decode cX12_build 44 = .ok (.invokevirtual 198, 3) := by decide +kernel
theorem dX12_build_47 : decode cX12_build 47 = .ok (.istore 4, 2) := by decide +kernel
theorem dX12_build_49 : decode cX12_build 49 = .ok (.bipush (-5), 2) := by decide +kernel
theorem dX12_build_51 : decode cX12_build 51 = .ok (.istore 5, 2) := by decide +kernel
theorem dX12_build_53 : decode cX12_build 53 = .ok (.iconst 0, 1) := by decide +kernel
theorem dX12_build_54 : decode cX12_build 54 = .ok (.istore 6, 2) := by decide +kernel
theorem dX12_build_56 : decode cX12_build 56 = .ok (.iload 6, 2) := by decide +kernel
theorem dX12_build_58 : decode cX12_build 58 = .ok (.bipush 36, 2) := by decide +kernel
theorem dX12_build_60 : decode cX12_build 60 = .ok (.if_icmp .ge 102, 3) := by decide +kernel
theorem dX12_build_63 : decode cX12_build 63 = .ok (.aload_n 0, 1) := by decide +kernel
theorem dX12_build_64 : decode cX12_build 64 = .ok (.iload 6, 2) := by decide +kernel
theorem dX12_build_66 : decode cX12_build 66 = .ok (.invokevirtual 153, 3) := by decide +kernel
theorem dX12_build_69 : decode cX12_build 69 = .ok (.iconst (-1), 1) := by decide +kernel
theorem dX12_build_70 : decode cX12_build 70 = .ok (.if_icmp .ne 86, 3) := by decide +kernel
theorem dX12_build_73 : decode cX12_build 73 = .ok (.aload_n 0, 1) := by decide +kernel
theorem dX12_build_74 : decode cX12_build 74 = .ok (.iconst 0, 1) := by decide +kernel
theorem dX12_build_75 : decode cX12_build 75 = .ok (.iconst 0, 1) := by decide +kernel
theorem dX12_build_76 : decode cX12_build 76 = .ok (.iload 6, 2) := by decide +kernel
theorem dX12_build_78 : decode cX12_build 78 = .ok (.invokevirtual 156, 3) := by decide +kernel
theorem dX12_build_81 : decode cX12_build 81 = .ok (.pop, 1) := by decide +kernel
theorem dX12_build_82 : decode cX12_build 82 = .ok (.aload_n 0, 1) := by decide +kernel
theorem dX12_build_83 : decode cX12_build 83 = .ok (.iload_n 1, 1) := by decide +kernel
theorem dX12_build_84 : decode cX12_build 84 = .ok (.iload_n 2, 1) := by decide +kernel
theorem dX12_build_85 : decode cX12_build 85 = .ok (.invokevirtual 198, 3) := by decide +kernel
theorem dX12_build_88 : decode cX12_build 88 = .ok (.istore 7, 2) := by decide +kernel
theorem dX12_build_90 : decode cX12_build 90 = .ok (.aload_n 0, 1) := by decide +kernel
theorem dX12_build_91 : decode cX12_build 91 = .ok (.getfield 9, 3) := by decide +kernel
theorem dX12_build_94 : decode cX12_build 94 = .ok (.iconst 0, 1) := by decide +kernel
theorem dX12_build_95 : decode cX12_build 95 = .ok (.dup2, 1) := by decide +kernel
theorem dX12_build_96 : decode cX12_build 96 = .ok (.iaload, 1) := by decide +kernel
theorem dX12_build_97 : decode cX12_build 97 = .ok (.iconst 1, 1) := by decide +kernel
theorem dX12_build_98 : decode cX12_build 98 = .ok (.isub, 1) := by decide +kernel
theorem dX12_build_99 : decode cX12_build 99 = .ok (.iastore, 1) := by decide +kernel
theorem dX12_build_100 : decode cX12_build 100 = .ok (.iload 7, 2) := by decide +kernel
theorem dX12_build_102 : decode cX12_build 102 = .ok (.bipush (-5), 2) := by decide +kernel
theorem dX12_build_104 : decode cX12_build 104 = .ok (.if_icmp .eq 21, 3) := by decide +kernel
theorem dX12_build_107 : decode cX12_build 107 = .ok (.iload 4, 2) := by decide +kernel
theorem dX12_build_109 : decode cX12_build 109 = .ok (.bipush (-5), 2) := by decide +kernel
theorem dX12_build_111 : decode cX12_build 111 = .ok (.if_icmp .eq 10, 3) := by decide +kernel
theorem dX12_build_114 : decode cX12_build 114 = .ok (.iload 7, 2) := by decide +kernel
theorem dX12_build_116 : decode cX12_build 116 = .ok (.iload 4, 2) := by decide +kernel
theorem dX12_build_118 : decode cX12_build 118 = .ok (.if_icmp .ge 7, 3) := by decide +kernel
theorem dX12_build_121 : decode cX12_build 121 = .ok (.iconst 1, 1) := by decide +kernel
theorem dX12_build_122 : decode cX12_build 122 = .ok (.goto 4, 3) := by decide +kernel
theorem dX12_build_125 : decode cX12_build 125 = .ok (.iconst 0, 1) := by decide +kernel
theorem dX12_build_126 : decode cX12_build 126 = .ok (.istore 8, 2) := by decide +kernel
theorem dX12_build_128 : decode cX12_build 128 = .ok (.iload 8, 2) := by decide +kernel
theorem dX12_build_130 : decode cX12_build 130 = .ok (.ifCond .eq 8, 3) := by decide +kernel
theorem dX12_build_133 : decode cX12_build 133 = .ok (.iload 6, 2) := by decide +kernel
theorem dX12_build_135 : decode cX12_build 135 = .ok (.goto 5, 3) := by decide +kernel
theorem dX12_build_138 : decode cX12_build 138 = .ok (.iload 5, 2) := by decide +kernel
theorem dX12_build_140 : decode cX12_build 140 = .ok (.istore 5, 2) := by decide +kernel
theorem dX12_build_142 : decode cX12_build 142 = .ok (.iload 8, 2) := by decide +kernel
theorem dX12_build_144 : decode cX12_build 144 = .ok (.ifCond .eq 8, 3) := by decide +kernel
theorem dX12_build_147 : decode cX12_build 147 = .ok (.iload 7, 2) := by decide +kernel
theorem dX12_build_149 : decode cX12_build 149 = .ok (.goto 5, 3) := by decide +kernel
theorem dX12_build_152 : decode cX12_build 152 = .ok (.iload 4, 2) := by decide +kernel
theorem dX12_build_154 : decode cX12_build 154 = .ok (.istore 4, 2) := by decide +kernel
theorem dX12_build_156 : decode cX12_build 156 = .ok (.iinc 6 1, 3) := by decide +kernel
theorem dX12_build_159 : decode cX12_build 159 = .ok (.goto (-103), 3) := by decide +kernel
theorem dX12_build_162 : decode cX12_build 162 = .ok (.iload 5, 2) := by decide +kernel
theorem dX12_build_164 : decode cX12_build 164 = .ok (.bipush (-5), 2) := by decide +kernel
theorem dX12_build_166 : decode cX12_build 166 = .ok (.if_icmp .eq 7, 3) := by decide +kernel
theorem dX12_build_169 : decode cX12_build 169 = .ok (.iload_n 3, 1) := by decide +kernel
theorem dX12_build_170 : decode cX12_build 170 = .ok (.ifCond .ne 8, 3) := by decide +kernel
theorem dX12_build_173 : decode cX12_build 173 = .ok (.iload 5, 2) := by decide +kernel
theorem dX12_build_175 : decode cX12_build 175 = .ok (.goto 5, 3) := by decide +kernel
theorem dX12_build_178 : decode cX12_build 178 = .ok (.iload 4, 2) := by decide +kernel
theorem dX12_build_180 : decode cX12_build 180 = .ok (.ireturn, 1) := by decide +kernel
set_option maxRecDepth 20000 in
theorem ggX12_driftOf_X12_looks : GoodIn wsX12_driftOf wsX12_looks := goodIn_r _ [6, 7, 8, 9, 1, 10, 11, 12, 13, 14, 15, 16, 17, 18, 19, 20, 21, 22, 23, 24, 25, 26, 27, 28, 29, 30, 31, 32, 33] (by decide +kernel) (by decide +kernel)
set_option maxRecDepth 20000 in
theorem gX12_driftOf_X12_looks : GoodIn wsX12_driftOf (wsV RX12 160 RX12 yX12_looks wsX12_looks) := goodIn_app (goodIn_of _ (by decide +kernel)) ggX12_driftOf_X12_looks
theorem dX12_driftOf_0 : decode cX12_driftOf 0 = .ok (.aload_n 0, 1) := by decide +kernel
theorem dX12_driftOf_1 : decode cX12_driftOf 1 = .ok (.bipush 99, 2) := by decide +kernel
theorem dX12_driftOf_3 : decode cX12_driftOf 3 = .ok (.bipush 99, 2) := by decide +kernel
theorem dX12_driftOf_5 : decode cX12_driftOf 5 = .ok (.iload_n 1, 1) := by decide +kernel
theorem dX12_driftOf_6 : decode cX12_driftOf 6 = .ok (.invokevirtual 160, 3) := by decide +kernel
theorem dX12_driftOf_9 : decode cX12_driftOf 9 = .ok (.aload_n 0, 1) := by decide +kernel
theorem dX12_driftOf_10 : decode cX12_driftOf 10 = .ok (.getfield 146, 3) := by decide +kernel
theorem dX12_driftOf_13 : decode cX12_driftOf 13 = .ok (.iconst 5, 1) := by decide +kernel
theorem dX12_driftOf_14 : decode cX12_driftOf 14 = .ok (.if_icmp .le 7, 3) := by decide +kernel
theorem dX12_driftOf_17 : decode cX12_driftOf 17 = .ok (.iconst 5, 1) := by decide +kernel
theorem dX12_driftOf_18 : decode cX12_driftOf 18 = .ok (.goto 7, 3) := by decide +kernel
theorem dX12_driftOf_21 : decode cX12_driftOf 21 = .ok (.aload_n 0, 1) := by decide +kernel
theorem dX12_driftOf_22 : decode cX12_driftOf 22 = .ok (.getfield 146, 3) := by decide +kernel
theorem dX12_driftOf_25 : decode cX12_driftOf 25 = .ok (.ireturn, 1) := by decide +kernel
set_option maxRecDepth 20000 in
theorem ggX12_drift_X12_isCell : GoodIn wsX12_drift wsX12_isCell := goodIn_r _ [4, 5, 6, 3, 7] (by decide +kernel) (by decide +kernel)
set_option maxRecDepth 20000 in
theorem gX12_drift_X12_isCell : GoodIn wsX12_drift (va_wsS RX12 149 yX12_isCell wsX12_isCell) := goodIn_app (goodIn_of _ (by decide +kernel)) ggX12_drift_X12_isCell
set_option maxRecDepth 20000 in
theorem ggX12_drift_X12_driftOf : GoodIn wsX12_drift wsX12_driftOf := goodIn_r _ [11, 12, 13, 14, 15, 3, 16, 17, 18, 19, 20, 21, 22, 23, 24, 25, 26, 27, 28, 29, 30, 31, 32, 33, 34, 35, 36, 37, 38, 39, 40, 41, 42, 43] (by decide +kernel) (by decide +kernel)
set_option maxRecDepth 20000 in
theorem gX12_drift_X12_driftOf : GoodIn wsX12_drift (wsV RX12 201 RX12 yX12_driftOf wsX12_driftOf) := goodIn_app (goodIn_of _ (by decide +kernel)) ggX12_drift_X12_driftOf
theorem dX12_drift_0 : decode cX12_drift 0 = .ok (.iload_n 1, 1) := by decide +kernel
theorem dX12_drift_1 : decode cX12_drift 1 = .ok (.invokestatic 149, 3) := by decide +kernel
theorem dX12_drift_4 : decode cX12_drift 4 = .ok (.ifCond .eq 11, 3) := by decide +kernel
theorem dX12_drift_7 : decode cX12_drift 7 = .ok (.aload_n 0, 1) := by decide +kernel
theorem dX12_drift_8 : decode cX12_drift 8 = .ok (.iload_n 1, 1) := by decide +kernel
theorem dX12_drift_9 : decode cX12_drift 9 = .ok (.invokevirtual 201, 3) := by decide +kernel
theorem dX12_drift_12 : decode cX12_drift 12 = .ok (.goto 4, 3) := by decide +kernel
theorem dX12_drift_15 : decode cX12_drift 15 = .ok (.iconst (-1), 1) := by decide +kernel
theorem dX12_drift_16 : decode cX12_drift 16 = .ok (.ireturn, 1) := by decide +kernel
set_option maxRecDepth 20000 in
theorem ggX12_looksForDrifts_X12_driftOf : GoodIn wsX12_looksForDrifts wsX12_driftOf := goodIn_r _ [6, 7, 8, 9, 10, 5, 11, 12, 13, 14, 15, 16, 17, 18, 19, 20, 21, 22, 23, 24, 25, 26, 27, 28, 29, 30, 31, 32, 33, 34, 35, 36, 37, 38] (by decide +kernel) (by decide +kernel)
set_option maxRecDepth 20000 in
theorem gX12_looksForDrifts_X12_driftOf : GoodIn wsX12_looksForDrifts (wsV RX12 201 RX12 yX12_driftOf wsX12_driftOf) := goodIn_app (goodIn_of _ (by decide +kernel)) ggX12_looksForDrifts_X12_driftOf
theorem dX12_looksForDrifts_0 : decode cX12_looksForDrifts 0 = .ok (.iconst 0, 1) := by decide +kernel
theorem dX12_looksForDrifts_1 : decode cX12_looksForDrifts 1 = .ok (.istore_n 1, 1) := by decide +kernel
theorem dX12_looksForDrifts_2 : decode cX12_looksForDrifts 2 = .ok (.iload_n 1, 1) := by decide +kernel
theorem dX12_looksForDrifts_3 : decode cX12_looksForDrifts 3 = .ok (.bipush 36, 2) := by decide +kernel
theorem dX12_looksForDrifts_5 : decode cX12_looksForDrifts 5 = .ok (.if_icmp .ge 20, 3) := by decide +kernel
theorem dX12_looksForDrifts_8 : decode cX12_looksForDrifts 8 = .ok (.aload_n 0, 1) := by decide +kernel
theorem dX12_looksForDrifts_9 : decode cX12_looksForDrifts 9 = .ok (.getfield 35, 3) := by decide +kernel
theorem dX12_looksForDrifts_12 : decode cX12_looksForDrifts 12 = .ok (.iload_n 1, 1) := by decide +kernel
theorem dX12_looksForDrifts_13 : decode cX12_looksForDrifts 13 = .ok (.aload_n 0, 1) := by decide +kernel
theorem dX12_looksForDrifts_14 : decode cX12_looksForDrifts 14 = .ok (.iload_n 1, 1) := by decide +kernel
theorem dX12_looksForDrifts_15 : decode cX12_looksForDrifts 15 = .ok (.invokevirtual 201, 3) := by decide +kernel
theorem dX12_looksForDrifts_18 : decode cX12_looksForDrifts 18 = .ok (.iastore, 1) := by decide +kernel
theorem dX12_looksForDrifts_19 : decode cX12_looksForDrifts 19 = .ok (.iinc 1 1, 3) := by decide +kernel
theorem dX12_looksForDrifts_22 : decode cX12_looksForDrifts 22 = .ok (.goto (-20), 3) := by decide +kernel
theorem dX12_looksForDrifts_25 : decode cX12_looksForDrifts 25 = .ok (.return_, 1) := by decide +kernel
theorem dX12_begins_0 : decode cX12_begins 0 = .ok (.iconst 0, 1) := by decide +kernel
theorem dX12_begins_1 : decode cX12_begins 1 = .ok (.istore_n 2, 1) := by decide +kernel
theorem dX12_begins_2 : decode cX12_begins 2 = .ok (.iload_n 2, 1) := by decide +kernel
theorem dX12_begins_3 : decode cX12_begins 3 = .ok (.bipush 36, 2) := by decide +kernel
theorem dX12_begins_5 : decode cX12_begins 5 = .ok (.if_icmp .ge 25, 3) := by decide +kernel
theorem dX12_begins_8 : decode cX12_begins 8 = .ok (.aload_n 0, 1) := by decide +kernel
theorem dX12_begins_9 : decode cX12_begins 9 = .ok (.getfield 28, 3) := by decide +kernel
theorem dX12_begins_12 : decode cX12_begins 12 = .ok (.iload_n 2, 1) := by decide +kernel
theorem dX12_begins_13 : decode cX12_begins 13 = .ok (.iload_n 2, 1) := by decide +kernel
theorem dX12_begins_14 : decode cX12_begins 14 = .ok (.iload_n 1, 1) := by decide +kernel
theorem dX12_begins_15 : decode cX12_begins 15 = .ok (.if_icmp .ne 7, 3) := by decide +kernel
theorem dX12_begins_18 : decode cX12_begins 18 = .ok (.lconst 1, 1) := by decide +kernel
theorem dX12_begins_19 : decode cX12_begins 19 = .ok (.goto 4, 3) := by decide +kernel
theorem dX12_begins_22 : decode cX12_begins 22 = .ok (.lconst 0, 1) := by decide +kernel
theorem dX12_begins_23 : decode cX12_begins 23 = .ok (.lastore, 1) := by decide +kernel
theorem dX12_begins_24 : decode cX12_begins 24 = .ok (.iinc 2 1, 3) := by decide +kernel
theorem dX12_begins_27 : decode cX12_begins 27 = .ok (.goto (-25), 3) := by decide +kernel
theorem dX12_begins_30 : decode cX12_begins 30 = .ok (.return_, 1) := by decide +kernel
set_option maxRecDepth 20000 in
theorem ggX12_goesOn_X12_nextTo : GoodIn wsX12_goesOn wsX12_nextTo := goodIn_r _ [9, 10, 11, 8, 12, 13, 14, 15, 16, 17, 18] (by decide +kernel) (by decide +kernel)
set_option maxRecDepth 20000 in
theorem gX12_goesOn_X12_nextTo : GoodIn wsX12_goesOn (va_wsS RX12 206 yX12_nextTo wsX12_nextTo) := goodIn_app (goodIn_of _ (by decide +kernel)) ggX12_goesOn_X12_nextTo
theorem dX12_goesOn_0 : decode cX12_goesOn 0 = .ok (.iconst 0, 1) := by decide +kernel
theorem dX12_goesOn_1 : decode cX12_goesOn 1 = .ok (.istore_n 2, 1) := by decide +kernel
theorem dX12_goesOn_2 : decode cX12_goesOn 2 = .ok (.iload_n 2, 1) := by decide +kernel
theorem dX12_goesOn_3 : decode cX12_goesOn 3 = .ok (.bipush 36, 2) := by decide +kernel
theorem dX12_goesOn_5 : decode cX12_goesOn 5 = .ok (.if_icmp .ge 16, 3) := by decide +kernel
theorem dX12_goesOn_8 : decode cX12_goesOn 8 = .ok (.aload_n 0, 1) := by decide +kernel
theorem dX12_goesOn_9 : decode cX12_goesOn 9 = .ok (.getfield 32, 3) := by decide +kernel
theorem dX12_goesOn_12 : decode cX12_goesOn 12 = .ok (.iload_n 2, 1) := by decide +kernel
theorem dX12_goesOn_13 : decode cX12_goesOn 13 = .ok (.lconst 0, 1) := by decide +kernel
theorem dX12_goesOn_14 : decode cX12_goesOn 14 = .ok (.lastore, 1) := by decide +kernel
theorem dX12_goesOn_15 : decode cX12_goesOn 15 = .ok (.iinc 2 1, 3) := by decide +kernel
theorem dX12_goesOn_18 : decode cX12_goesOn 18 = .ok (.goto (-16), 3) := by decide +kernel
theorem dX12_goesOn_21 : decode cX12_goesOn 21 = .ok (.iconst 0, 1) := by decide +kernel
theorem dX12_goesOn_22 : decode cX12_goesOn 22 = .ok (.istore_n 2, 1) := by decide +kernel
theorem dX12_goesOn_23 : decode cX12_goesOn 23 = .ok (.iload_n 2, 1) := by decide +kernel
theorem dX12_goesOn_24 : decode cX12_goesOn 24 = .ok (.bipush 36, 2) := by decide +kernel
theorem dX12_goesOn_26 : decode cX12_goesOn 26 = .ok (.if_icmp .ge 155, 3) := by decide +kernel
theorem dX12_goesOn_29 : decode cX12_goesOn 29 = .ok (.aload_n 0, 1) := by decide +kernel
theorem dX12_goesOn_30 : decode cX12_goesOn 30 = .ok (.getfield 28, 3) := by decide +kernel
theorem dX12_goesOn_33 : decode cX12_goesOn 33 = .ok (.iload_n 2, 1) := by decide +kernel
theorem dX12_goesOn_34 : decode cX12_goesOn 34 = .ok (.laload, 1) := by decide +kernel
theorem dX12_goesOn_35 : decode cX12_goesOn 35 = .ok (.lconst 0, 1) := by decide +kernel
theorem dX12_goesOn_36 : decode cX12_goesOn 36 = .ok (.lcmp, 1) := by decide +kernel
theorem dX12_goesOn_37 : decode cX12_goesOn 37 = .ok (.ifCond .le 38, 3) := by decide +kernel
theorem dX12_goesOn_40 : decode cX12_goesOn 40 = .ok (.aload_n 0, 1) := by decide +kernel
theorem dX12_goesOn_41 : decode cX12_goesOn 41 = .ok (.getfield 9, 3) := by decide +kernel
theorem dX12_goesOn_44 : decode cX12_goesOn 44 = .ok (.bipush 37, 2) := by decide +kernel
theorem dX12_goesOn_46 : decode cX12_goesOn 46 = .ok (.iload_n 2, 1) := by decide +kernel
theorem dX12_goesOn_47 : decode cX12_goesOn 47 = .ok (.iadd, 1) := by decide +kernel
theorem dX12_goesOn_48 : decode cX12_goesOn 48 = .ok (.iaload, 1) := by decide +kernel
theorem dX12_goesOn_49 : decode cX12_goesOn 49 = .ok (.iconst 1, 1) := by decide +kernel
theorem dX12_goesOn_50 : decode cX12_goesOn 50 = .ok (.if_icmp .ne 25, 3) := by decide +kernel
theorem dX12_goesOn_53 : decode cX12_goesOn 53 = .ok (.aload_n 0, 1) := by decide +kernel
theorem dX12_goesOn_54 : decode cX12_goesOn 54 = .ok (.getfield 32, 3) := by decide +kernel
theorem dX12_goesOn_57 : decode cX12_goesOn 57 = .ok (.iload_n 2, 1) := by decide +kernel
theorem dX12_goesOn_58 : decode cX12_goesOn 58 = .ok (.dup2, 1) := by decide +kernel
theorem dX12_goesOn_59 : decode cX12_goesOn 59 = .ok (.laload, 1) := by decide +kernel
theorem dX12_goesOn_60 : decode cX12_goesOn 60 = .ok (.ldc2_w 204, 3) := by decide +kernel
theorem dX12_goesOn_63 : decode cX12_goesOn 63 = .ok (.aload_n 0, 1) := by decide +kernel
theorem dX12_goesOn_64 : decode cX12_goesOn 64 = .ok (.getfield 28, 3) := by decide +kernel
theorem dX12_goesOn_67 : decode cX12_goesOn 67 = .ok (.iload_n 2, 1) := by decide +kernel
theorem dX12_goesOn_68 : decode cX12_goesOn 68 = .ok (.laload, 1) := by decide +kernel
theorem dX12_goesOn_69 : decode cX12_goesOn 69 = .ok (.lmul, 1) := by decide +kernel
theorem dX12_goesOn_70 : decode cX12_goesOn 70 = .ok (.ladd, 1) := by decide +kernel
theorem dX12_goesOn_71 : decode cX12_goesOn 71 = .ok (.lastore, 1) := by decide +kernel
theorem dX12_goesOn_72 : decode cX12_goesOn 72 = .ok (.goto 103, 3) := by decide +kernel
theorem dX12_goesOn_75 : decode cX12_goesOn 75 = .ok (.aload_n 0, 1) := by decide +kernel
theorem dX12_goesOn_76 : decode cX12_goesOn 76 = .ok (.getfield 28, 3) := by decide +kernel
theorem dX12_goesOn_79 : decode cX12_goesOn 79 = .ok (.iload_n 2, 1) := by decide +kernel
theorem dX12_goesOn_80 : decode cX12_goesOn 80 = .ok (.laload, 1) := by decide +kernel
theorem dX12_goesOn_81 : decode cX12_goesOn 81 = .ok (.lconst 0, 1) := by decide +kernel
theorem dX12_goesOn_82 : decode cX12_goesOn 82 = .ok (.lcmp, 1) := by decide +kernel
theorem dX12_goesOn_83 : decode cX12_goesOn 83 = .ok (.ifCond .le 92, 3) := by decide +kernel
theorem dX12_goesOn_86 : decode cX12_goesOn 86 = .ok (.aload_n 0, 1) := by decide +kernel
theorem dX12_goesOn_87 : decode cX12_goesOn 87 = .ok (.getfield 35, 3) := by decide +kernel
theorem dX12_goesOn_90 : decode cX12_goesOn 90 = .ok (.iload_n 2, 1) := by decide +kernel
theorem dX12_goesOn_91 : decode cX12_goesOn 91 = .ok (.iaload, 1) := by decide +kernel
theorem dX12_goesOn_92 : decode cX12_goesOn 92 = .ok (.istore_n 3, 1) := by decide +kernel
theorem dX12_goesOn_93 : decode cX12_goesOn 93 = .ok (.aload_n 0, 1) := by decide +kernel
theorem dX12_goesOn_94 : decode cX12_goesOn 94 = .ok (.getfield 32, 3) := by decide +kernel
theorem dX12_goesOn_97 : decode cX12_goesOn 97 = .ok (.iload_n 2, 1) := by decide +kernel
theorem dX12_goesOn_98 : decode cX12_goesOn 98 = .ok (.iload_n 1, 1) := by decide +kernel
theorem dX12_goesOn_99 : decode cX12_goesOn 99 = .ok (.invokestatic 206, 3) := by decide +kernel
theorem dX12_goesOn_102 : decode cX12_goesOn 102 = .ok (.dup2, 1) := by decide +kernel
theorem dX12_goesOn_103 : decode cX12_goesOn 103 = .ok (.laload, 1) := by decide +kernel
theorem dX12_goesOn_104 : decode cX12_goesOn 104 = .ok (.bipush 20, 2) := by decide +kernel
theorem dX12_goesOn_106 : decode cX12_goesOn 106 = .ok (.iconst 2, 1) := by decide +kernel
theorem dX12_goesOn_107 : decode cX12_goesOn 107 = .ok (.iload_n 3, 1) := by decide +kernel
theorem dX12_goesOn_108 : decode cX12_goesOn 108 = .ok (.imul, 1) := by decide +kernel
theorem dX12_goesOn_109 : decode cX12_goesOn 109 = .ok (.isub, 1) := by decide +kernel
theorem dX12_goesOn_110 : decode cX12_goesOn 110 = .ok (.i2l, 1) := by decide +kernel
theorem dX12_goesOn_111 : decode cX12_goesOn 111 = .ok (.aload_n 0, 1) := by decide +kernel
theorem dX12_goesOn_112 : decode cX12_goesOn 112 = .ok (.getfield 28, 3) := by decide +kernel
theorem dX12_goesOn_115 : decode cX12_goesOn 115 = .ok (.iload_n 2, 1) := by decide +kernel
theorem dX12_goesOn_116 : decode cX12_goesOn 116 = .ok (.laload, 1) := by decide +kernel
theorem dX12_goesOn_117 : decode cX12_goesOn 117 = .ok (.lmul, 1) := by decide +kernel
theorem dX12_goesOn_118 : decode cX12_goesOn 118 = .ok (.ladd, 1) := by decide +kernel
theorem dX12_goesOn_119 : decode cX12_goesOn 119 = .ok (.lastore, 1) := by decide +kernel
theorem dX12_goesOn_120 : decode cX12_goesOn 120 = .ok (.aload_n 0, 1) := by decide +kernel
theorem dX12_goesOn_121 : decode cX12_goesOn 121 = .ok (.getfield 32, 3) := by decide +kernel
theorem dX12_goesOn_124 : decode cX12_goesOn 124 = .ok (.iload_n 2, 1) := by decide +kernel
theorem dX12_goesOn_125 : decode cX12_goesOn 125 = .ok (.iload_n 1, 1) := by decide +kernel
theorem dX12_goesOn_126 : decode cX12_goesOn 126 = .ok (.bipush 7, 2) := by decide +kernel
theorem dX12_goesOn_128 : decode cX12_goesOn 128 = .ok (.iadd, 1) := by decide +kernel
theorem dX12_goesOn_129 : decode cX12_goesOn 129 = .ok (.bipush 8, 2) := by decide +kernel
theorem dX12_goesOn_131 : decode cX12_goesOn 131 = .ok (.irem, 1) := by decide +kernel
theorem dX12_goesOn_132 : decode cX12_goesOn 132 = .ok (.invokestatic 206, 3) := by decide +kernel
theorem dX12_goesOn_135 : decode cX12_goesOn 135 = .ok (.dup2, 1) := by decide +kernel
theorem dX12_goesOn_136 : decode cX12_goesOn 136 = .ok (.laload, 1) := by decide +kernel
theorem dX12_goesOn_137 : decode cX12_goesOn 137 = .ok (.iload_n 3, 1) := by decide +kernel
theorem dX12_goesOn_138 : decode cX12_goesOn 138 = .ok (.i2l, 1) := by decide +kernel
theorem dX12_goesOn_139 : decode cX12_goesOn 139 = .ok (.aload_n 0, 1) := by decide +kernel
theorem dX12_goesOn_140 : decode cX12_goesOn 140 = .ok (.getfield 28, 3) := by decide +kernel
theorem dX12_goesOn_143 : decode cX12_goesOn 143 = .ok (.iload_n 2, 1) := by decide +kernel
theorem dX12_goesOn_144 : decode cX12_goesOn 144 = .ok (.laload, 1) := by decide +kernel
theorem dX12_goesOn_145 : decode cX12_goesOn 145 = .ok (.lmul, 1) := by decide +kernel
theorem dX12_goesOn_146 : decode cX12_goesOn 146 = .ok (.ladd, 1) := by decide +kernel
theorem dX12_goesOn_147 : decode cX12_goesOn 147 = .ok (.lastore, 1) := by decide +kernel
theorem dX12_goesOn_148 : decode cX12_goesOn 148 = .ok (.aload_n 0, 1) := by decide +kernel
theorem dX12_goesOn_149 : decode cX12_goesOn 149 = .ok (.getfield 32, 3) := by decide +kernel
theorem dX12_goesOn_152 : decode cX12_goesOn 152 = .ok (.iload_n 2, 1) := by decide +kernel
theorem dX12_goesOn_153 : decode cX12_goesOn 153 = .ok (.iload_n 1, 1) := by decide +kernel
theorem dX12_goesOn_154 : decode cX12_goesOn 154 = .ok (.iconst 1, 1) := by decide +kernel
theorem dX12_goesOn_155 : decode cX12_goesOn 155 = .ok (.iadd, 1) := by decide +kernel
theorem dX12_goesOn_156 : decode cX12_goesOn 156 = .ok (.bipush 8, 2) := by decide +kernel
theorem dX12_goesOn_158 : decode cX12_goesOn 158 = .ok (.irem, 1) := by decide +kernel
theorem dX12_goesOn_159 : decode cX12_goesOn 159 = .ok (.invokestatic 206, 3) := by decide +kernel
theorem dX12_goesOn_162 : decode cX12_goesOn 162 = .ok (.dup2, 1) := by decide +kernel
theorem dX12_goesOn_163 : decode cX12_goesOn 163 = .ok (.laload, 1) := by decide +kernel
theorem dX12_goesOn_164 : decode cX12_goesOn 164 = .ok (.iload_n 3, 1) := by decide +kernel
theorem dX12_goesOn_165 : decode cX12_goesOn 165 = .ok (.i2l, 1) := by decide +kernel
theorem dX12_goesOn_166 : decode cX12_goesOn 166 = .ok (.aload_n 0, 1) := by decide +kernel
theorem dX12_goesOn_167 : decode cX12_goesOn 167 = .ok (.getfield 28, 3) := by decide +kernel
theorem dX12_goesOn_170 : decode cX12_goesOn 170 = .ok (.iload_n 2, 1) := by decide +kernel
theorem dX12_goesOn_171 : decode cX12_goesOn 171 = .ok (.laload, 1) := by decide +kernel
theorem dX12_goesOn_172 : decode cX12_goesOn 172 = .ok (.lmul, 1) := by decide +kernel
theorem dX12_goesOn_173 : decode cX12_goesOn 173 = .ok (.ladd, 1) := by decide +kernel
theorem dX12_goesOn_174 : decode cX12_goesOn 174 = .ok (.lastore, 1) := by decide +kernel
theorem dX12_goesOn_175 : decode cX12_goesOn 175 = .ok (.iinc 2 1, 3) := by decide +kernel
theorem dX12_goesOn_178 : decode cX12_goesOn 178 = .ok (.goto (-155), 3) := by decide +kernel
theorem dX12_goesOn_181 : decode cX12_goesOn 181 = .ok (.iconst 0, 1) := by decide +kernel
theorem dX12_goesOn_182 : decode cX12_goesOn 182 = .ok (.istore_n 2, 1) := by decide +kernel
theorem dX12_goesOn_183 : decode cX12_goesOn 183 = .ok (.iload_n 2, 1) := by decide +kernel
theorem dX12_goesOn_184 : decode cX12_goesOn 184 = .ok (.bipush 36, 2) := by decide +kernel
theorem dX12_goesOn_186 : decode cX12_goesOn 186 = .ok (.if_icmp .ge 21, 3) := by decide +kernel
theorem dX12_goesOn_189 : decode cX12_goesOn 189 = .ok (.aload_n 0, 1) := by decide +kernel
theorem dX12_goesOn_190 : decode cX12_goesOn 190 = .ok (.getfield 28, 3) := by decide +kernel
theorem dX12_goesOn_193 : decode cX12_goesOn 193 = .ok (.iload_n 2, 1) := by decide +kernel
theorem dX12_goesOn_194 : decode cX12_goesOn 194 = .ok (.aload_n 0, 1) := by decide +kernel
theorem dX12_goesOn_195 : decode cX12_goesOn 195 = .ok (.getfield 32, 3) := by decide +kernel
theorem dX12_goesOn_198 : decode cX12_goesOn 198 = .ok (.iload_n 2, 1) := by decide +kernel
theorem dX12_goesOn_199 : decode cX12_goesOn 199 = .ok (.laload, 1) := by decide +kernel
theorem dX12_goesOn_200 : decode cX12_goesOn 200 = .ok (.lastore, 1) := by decide +kernel
theorem dX12_goesOn_201 : decode cX12_goesOn 201 = .ok (.iinc 2 1, 3) := by decide +kernel
theorem dX12_goesOn_204 : decode cX12_goesOn 204 = .ok (.goto (-21), 3) := by decide +kernel
theorem dX12_goesOn_207 : decode cX12_goesOn 207 = .ok (.return_, 1) := by decide +kernel
theorem dX12_over_0 : decode cX12_over 0 = .ok (.lconst 0, 1) := by decide +kernel
theorem dX12_over_1 : decode cX12_over 1 = .ok (.lstore_n 1, 1) := by decide +kernel
theorem dX12_over_2 : decode cX12_over 2 = .ok (.iconst 0, 1) := by decide +kernel
theorem dX12_over_3 : decode cX12_over 3 = .ok (.istore_n 3, 1) := by decide +kernel
theorem dX12_over_4 : decode cX12_over 4 = .ok (.iload_n 3, 1) := by decide +kernel
theorem dX12_over_5 : decode cX12_over 5 = .ok (.bipush 36, 2) := by decide +kernel
theorem dX12_over_7 : decode cX12_over 7 = .ok (.if_icmp .ge 35, 3) := by decide +kernel
theorem dX12_over_10 : decode cX12_over 10 = .ok (.lload_n 1, 1) := by decide +kernel
theorem dX12_over_11 : decode cX12_over 11 = .ok (.aload_n 0, 1) := by decide +kernel
theorem dX12_over_12 : decode cX12_over 12 = .ok (.getfield 9, 3) := by decide +kernel
theorem dX12_over_15 : decode cX12_over 15 = .ok (.bipush 37, 2) := by decide +kernel
theorem dX12_over_17 : decode cX12_over 17 = .ok (.iload_n 3, 1) := by decide +kernel
theorem dX12_over_18 : decode cX12_over 18 = .ok (.iadd, 1) := by decide +kernel
theorem dX12_over_19 : decode cX12_over 19 = .ok (.iaload, 1) := by decide +kernel
theorem dX12_over_20 : decode cX12_over 20 = .ok (.iconst 1, 1) := by decide +kernel
theorem dX12_over_21 : decode cX12_over 21 = .ok (.if_icmp .ne 12, 3) := by decide +kernel
theorem dX12_over_24 : decode cX12_over 24 = .ok (.aload_n 0, 1) := by decide +kernel
theorem dX12_over_25 : decode cX12_over 25 = .ok (.getfield 28, 3) := by decide +kernel
theorem dX12_over_28 : decode cX12_over 28 = .ok (.iload_n 3, 1) := by decide +kernel
theorem dX12_over_29 : decode cX12_over 29 = .ok (.laload, 1) := by decide +kernel
theorem dX12_over_30 : decode cX12_over 30 = .ok (.goto 4, 3) := by decide +kernel
theorem dX12_over_33 : decode cX12_over 33 = .ok (.lconst 0, 1) := by decide +kernel
theorem dX12_over_34 : decode cX12_over 34 = .ok (.ladd, 1) := by decide +kernel
theorem dX12_over_35 : decode cX12_over 35 = .ok (.lstore_n 1, 1) := by decide +kernel
theorem dX12_over_36 : decode cX12_over 36 = .ok (.iinc 3 1, 3) := by decide +kernel
theorem dX12_over_39 : decode cX12_over 39 = .ok (.goto (-35), 3) := by decide +kernel
theorem dX12_over_42 : decode cX12_over 42 = .ok (.lload_n 1, 1) := by decide +kernel
theorem dX12_over_43 : decode cX12_over 43 = .ok (.lreturn, 1) := by decide +kernel
set_option maxRecDepth 20000 in
theorem ggX12_seen_X12_isSeen : GoodIn wsX12_seen wsX12_isSeen := goodIn_r _ [7, 1, 8, 9, 6, 10, 11, 12, 13, 14, 15, 16, 17, 18, 19, 20, 21, 22, 23, 24, 25, 26, 27, 28, 29, 30, 31, 32, 33, 34, 35, 36, 37, 38, 39, 40, 41, 42, 43, 44, 45, 46, 47, 48, 49, 50, 51, 52] (by decide +kernel) (by decide +kernel)
set_option maxRecDepth 20000 in
theorem gX12_seen_X12_isSeen : GoodIn wsX12_seen (wsV RX12 174 RX12 yX12_isSeen wsX12_isSeen) := goodIn_app (goodIn_of _ (by decide +kernel)) ggX12_seen_X12_isSeen
theorem dX12_seen_0 : decode cX12_seen 0 = .ok (.lconst 0, 1) := by decide +kernel
theorem dX12_seen_1 : decode cX12_seen 1 = .ok (.lstore_n 2, 1) := by decide +kernel
theorem dX12_seen_2 : decode cX12_seen 2 = .ok (.iconst 0, 1) := by decide +kernel
theorem dX12_seen_3 : decode cX12_seen 3 = .ok (.istore 4, 2) := by decide +kernel
theorem dX12_seen_5 : decode cX12_seen 5 = .ok (.iload 4, 2) := by decide +kernel
theorem dX12_seen_7 : decode cX12_seen 7 = .ok (.bipush 36, 2) := by decide +kernel
theorem dX12_seen_9 : decode cX12_seen 9 = .ok (.if_icmp .ge 46, 3) := by decide +kernel
theorem dX12_seen_12 : decode cX12_seen 12 = .ok (.lload_n 2, 1) := by decide +kernel
theorem dX12_seen_13 : decode cX12_seen 13 = .ok (.aload_n 0, 1) := by decide +kernel
theorem dX12_seen_14 : decode cX12_seen 14 = .ok (.getfield 9, 3) := by decide +kernel
theorem dX12_seen_17 : decode cX12_seen 17 = .ok (.bipush 37, 2) := by decide +kernel
theorem dX12_seen_19 : decode cX12_seen 19 = .ok (.iload 4, 2) := by decide +kernel
theorem dX12_seen_21 : decode cX12_seen 21 = .ok (.iadd, 1) := by decide +kernel
theorem dX12_seen_22 : decode cX12_seen 22 = .ok (.iaload, 1) := by decide +kernel
theorem dX12_seen_23 : decode cX12_seen 23 = .ok (.ifCond .ne 23, 3) := by decide +kernel
theorem dX12_seen_26 : decode cX12_seen 26 = .ok (.aload_n 0, 1) := by decide +kernel
theorem dX12_seen_27 : decode cX12_seen 27 = .ok (.iload_n 1, 1) := by decide +kernel
theorem dX12_seen_28 : decode cX12_seen 28 = .ok (.iload 4, 2) := by decide +kernel
theorem dX12_seen_30 : decode cX12_seen 30 = .ok (.invokevirtual 174, 3) := by decide +kernel
theorem dX12_seen_33 : decode cX12_seen 33 = .ok (.ifCond .eq 13, 3) := by decide +kernel
theorem dX12_seen_36 : decode cX12_seen 36 = .ok (.aload_n 0, 1) := by decide +kernel
theorem dX12_seen_37 : decode cX12_seen 37 = .ok (.getfield 28, 3) := by decide +kernel
theorem dX12_seen_40 : decode cX12_seen 40 = .ok (.iload 4, 2) := by decide +kernel
theorem dX12_seen_42 : decode cX12_seen 42 = .ok (.laload, 1) := by decide +kernel
theorem dX12_seen_43 : decode cX12_seen 43 = .ok (.goto 4, 3) := by decide +kernel
theorem dX12_seen_46 : decode cX12_seen 46 = .ok (.lconst 0, 1) := by decide +kernel
theorem dX12_seen_47 : decode cX12_seen 47 = .ok (.ladd, 1) := by decide +kernel
theorem dX12_seen_48 : decode cX12_seen 48 = .ok (.lstore_n 2, 1) := by decide +kernel
theorem dX12_seen_49 : decode cX12_seen 49 = .ok (.iinc 4 1, 3) := by decide +kernel
theorem dX12_seen_52 : decode cX12_seen 52 = .ok (.goto (-47), 3) := by decide +kernel
theorem dX12_seen_55 : decode cX12_seen 55 = .ok (.lload_n 2, 1) := by decide +kernel
theorem dX12_seen_56 : decode cX12_seen 56 = .ok (.lreturn, 1) := by decide +kernel
theorem dX12_lowest_0 : decode cX12_lowest 0 = .ok (.lload_n 0, 1) := by decide +kernel
theorem dX12_lowest_1 : decode cX12_lowest 1 = .ok (.lstore 5, 2) := by decide +kernel
theorem dX12_lowest_3 : decode cX12_lowest 3 = .ok (.lload_n 2, 1) := by decide +kernel
theorem dX12_lowest_4 : decode cX12_lowest 4 = .ok (.lstore 7, 2) := by decide +kernel
theorem dX12_lowest_6 : decode cX12_lowest 6 = .ok (.lload 7, 2) := by decide +kernel
theorem dX12_lowest_8 : decode cX12_lowest 8 = .ok (.lconst 0, 1) := by decide +kernel
theorem dX12_lowest_9 : decode cX12_lowest 9 = .ok (.lcmp, 1) := by decide +kernel
theorem dX12_lowest_10 : decode cX12_lowest 10 = .ok (.ifCond .eq 21, 3) := by decide +kernel
theorem dX12_lowest_13 : decode cX12_lowest 13 = .ok (.lload 5, 2) := by decide +kernel
theorem dX12_lowest_15 : decode cX12_lowest 15 = .ok (.lload 7, 2) := by decide +kernel
theorem dX12_lowest_17 : decode cX12_lowest 17 = .ok (.lrem, 1) := by decide +kernel
theorem dX12_lowest_18 : decode cX12_lowest 18 = .ok (.lstore 9, 2) := by decide +kernel
theorem dX12_lowest_20 : decode cX12_lowest 20 = .ok (.lload 7, 2) := by decide +kernel
theorem dX12_lowest_22 : decode cX12_lowest 22 = .ok (.lstore 5, 2) := by decide +kernel
theorem dX12_lowest_24 : decode cX12_lowest 24 = .ok (.lload 9, 2) := by decide +kernel
theorem dX12_lowest_26 : decode cX12_lowest 26 = .ok (.lstore 7, 2) := by decide +kernel
theorem dX12_lowest_28 : decode cX12_lowest 28 = .ok (.goto (-22), 3) := by decide +kernel
theorem dX12_lowest_31 : decode cX12_lowest 31 = .ok (.iload 4, 2) := by decide +kernel
theorem dX12_lowest_33 : decode cX12_lowest 33 = .ok (.ifCond .ne 7, 3) := by decide +kernel
theorem dX12_lowest_36 : decode cX12_lowest 36 = .ok (.lload_n 0, 1) := by decide +kernel
theorem dX12_lowest_37 : decode cX12_lowest 37 = .ok (.goto 4, 3) := by decide +kernel
theorem dX12_lowest_40 : decode cX12_lowest 40 = .ok (.lload_n 2, 1) := by decide +kernel
theorem dX12_lowest_41 : decode cX12_lowest 41 = .ok (.lload 5, 2) := by decide +kernel
theorem dX12_lowest_43 : decode cX12_lowest 43 = .ok (.ldiv, 1) := by decide +kernel
theorem dX12_lowest_44 : decode cX12_lowest 44 = .ok (.lreturn, 1) := by decide +kernel
theorem dX12_twenties_0 : decode cX12_twenties 0 = .ok (.lconst 1, 1) := by decide +kernel
theorem dX12_twenties_1 : decode cX12_twenties 1 = .ok (.lstore_n 1, 1) := by decide +kernel
theorem dX12_twenties_2 : decode cX12_twenties 2 = .ok (.iconst 0, 1) := by decide +kernel
theorem dX12_twenties_3 : decode cX12_twenties 3 = .ok (.istore_n 3, 1) := by decide +kernel
theorem dX12_twenties_4 : decode cX12_twenties 4 = .ok (.iload_n 3, 1) := by decide +kernel
theorem dX12_twenties_5 : decode cX12_twenties 5 = .ok (.iload_n 0, 1) := by decide +kernel
theorem dX12_twenties_6 : decode cX12_twenties 6 = .ok (.if_icmp .ge 15, 3) := by decide +kernel
theorem dX12_twenties_9 : decode cX12_twenties 9 = .ok (.lload_n 1, 1) := by decide +kernel
theorem dX12_twenties_10 : decode cX12_twenties 10 = .ok (.ldc2_w 204, 3) := by decide +kernel
theorem dX12_twenties_13 : decode cX12_twenties 13 = .ok (.lmul, 1) := by decide +kernel
theorem dX12_twenties_14 : decode cX12_twenties 14 = .ok (.lstore_n 1, 1) := by decide +kernel
theorem dX12_twenties_15 : decode cX12_twenties 15 = .ok (.iinc 3 1, 3) := by decide +kernel
theorem dX12_twenties_18 : decode cX12_twenties 18 = .ok (.goto (-14), 3) := by decide +kernel
theorem dX12_twenties_21 : decode cX12_twenties 21 = .ok (.lload_n 1, 1) := by decide +kernel
theorem dX12_twenties_22 : decode cX12_twenties 22 = .ok (.lreturn, 1) := by decide +kernel
set_option maxRecDepth 20000 in
theorem ggX12_walk_X12_in : GoodIn wsX12_walk wsX12_in := goodIn_r _ [5] (by decide +kernel) (by decide +kernel)
set_option maxRecDepth 20000 in
theorem gX12_walk_X12_in : GoodIn wsX12_walk (va_wsS RX12 45 yX12_in wsX12_in) := goodIn_app (goodIn_of _ (by decide +kernel)) ggX12_walk_X12_in
theorem dX12_walk_0 : decode cX12_walk 0 = .ok (.iload_n 1, 1) := by decide +kernel
theorem dX12_walk_1 : decode cX12_walk 1 = .ok (.iconst (-1), 1) := by decide +kernel
theorem dX12_walk_2 : decode cX12_walk 2 = .ok (.if_icmp .ne 12, 3) := by decide +kernel
theorem dX12_walk_5 : decode cX12_walk 5 = .ok (.aload_n 0, 1) := by decide +kernel
theorem dX12_walk_6 : decode cX12_walk 6 = .ok (.getfield 9, 3) := by decide +kernel
theorem dX12_walk_9 : decode cX12_walk 9 = .ok (.iconst 2, 1) := by decide +kernel
theorem dX12_walk_10 : decode cX12_walk 10 = .ok (.iconst 0, 1) := by decide +kernel
theorem dX12_walk_11 : decode cX12_walk 11 = .ok (.iastore, 1) := by decide +kernel
theorem dX12_walk_12 : decode cX12_walk 12 = .ok (.iconst 0, 1) := by decide +kernel
theorem dX12_walk_13 : decode cX12_walk 13 = .ok (.ireturn, 1) := by decide +kernel
theorem dX12_walk_14 : decode cX12_walk 14 = .ok (.iload_n 1, 1) := by decide +kernel
theorem dX12_walk_15 : decode cX12_walk 15 = .ok (.iconst 0, 1) := by decide +kernel
theorem dX12_walk_16 : decode cX12_walk 16 = .ok (.bipush 7, 2) := by decide +kernel
theorem dX12_walk_18 : decode cX12_walk 18 = .ok (.invokestatic 45, 3) := by decide +kernel
theorem dX12_walk_21 : decode cX12_walk 21 = .ok (.ifCond .ne 5, 3) := by decide +kernel
theorem dX12_walk_24 : decode cX12_walk 24 = .ok (.iconst (-1), 1) := by decide +kernel
theorem dX12_walk_25 : decode cX12_walk 25 = .ok (.ireturn, 1) := by decide +kernel
theorem dX12_walk_26 : decode cX12_walk 26 = .ok (.aload_n 0, 1) := by decide +kernel
theorem dX12_walk_27 : decode cX12_walk 27 = .ok (.getfield 9, 3) := by decide +kernel
theorem dX12_walk_30 : decode cX12_walk 30 = .ok (.iconst 2, 1) := by decide +kernel
theorem dX12_walk_31 : decode cX12_walk 31 = .ok (.iaload, 1) := by decide +kernel
theorem dX12_walk_32 : decode cX12_walk 32 = .ok (.bipush 6, 2) := by decide +kernel
theorem dX12_walk_34 : decode cX12_walk 34 = .ok (.if_icmp .ne 6, 3) := by decide +kernel
theorem dX12_walk_37 : decode cX12_walk 37 = .ok (.bipush (-4), 2) := by decide +kernel
theorem dX12_walk_39 : decode cX12_walk 39 = .ok (.ireturn, 1) := by decide +kernel
theorem dX12_walk_40 : decode cX12_walk 40 = .ok (.aload_n 0, 1) := by decide +kernel
theorem dX12_walk_41 : decode cX12_walk 41 = .ok (.getfield 9, 3) := by decide +kernel
theorem dX12_walk_44 : decode cX12_walk 44 = .ok (.bipush 73, 2) := by decide +kernel
theorem dX12_walk_46 : decode cX12_walk 46 = .ok (.aload_n 0, 1) := by decide +kernel
theorem dX12_walk_47 : decode cX12_walk 47 = .ok (.getfield 9, 3) := by decide +kernel
theorem dX12_walk_50 : decode cX12_walk 50 = .ok (.iconst 2, 1) := by decide +kernel
theorem dX12_walk_51 : decode cX12_walk 51 = .ok (.iaload, 1) := by decide +kernel
theorem dX12_walk_52 : decode cX12_walk 52 = .ok (.iadd, 1) := by decide +kernel
theorem dX12_walk_53 : decode cX12_walk 53 = .ok (.iload_n 1, 1) := by decide +kernel
theorem dX12_walk_54 : decode cX12_walk 54 = .ok (.iastore, 1) := by decide +kernel
theorem dX12_walk_55 : decode cX12_walk 55 = .ok (.aload_n 0, 1) := by decide +kernel
theorem dX12_walk_56 : decode cX12_walk 56 = .ok (.getfield 9, 3) := by decide +kernel
theorem dX12_walk_59 : decode cX12_walk 59 = .ok (.iconst 2, 1) := by decide +kernel
theorem dX12_walk_60 : decode cX12_walk 60 = .ok (.dup2, 1) := by decide +kernel
theorem dX12_walk_61 : decode cX12_walk 61 = .ok (.iaload, 1) := by decide +kernel
theorem dX12_walk_62 : decode cX12_walk 62 = .ok (.iconst 1, 1) := by decide +kernel
theorem dX12_walk_63 : decode cX12_walk 63 = .ok (.iadd, 1) := by decide +kernel
theorem dX12_walk_64 : decode cX12_walk 64 = .ok (.iastore, 1) := by decide +kernel
theorem dX12_walk_65 : decode cX12_walk 65 = .ok (.aload_n 0, 1) := by decide +kernel
theorem dX12_walk_66 : decode cX12_walk 66 = .ok (.getfield 9, 3) := by decide +kernel
theorem dX12_walk_69 : decode cX12_walk 69 = .ok (.iconst 2, 1) := by decide +kernel
theorem dX12_walk_70 : decode cX12_walk 70 = .ok (.iaload, 1) := by decide +kernel
theorem dX12_walk_71 : decode cX12_walk 71 = .ok (.ireturn, 1) := by decide +kernel
set_option maxRecDepth 20000 in
theorem ggX12_odds_X12_isHeap : GoodIn wsX12_odds wsX12_isHeap := goodIn_r _ [8, 2, 9, 10, 7, 11, 83, 84, 85, 86, 87, 88, 89, 90, 91, 92, 93, 94, 95, 96, 97, 98, 99, 100, 101, 102, 103, 104, 105] (by decide +kernel) (by decide +kernel)
set_option maxRecDepth 20000 in
theorem gX12_odds_X12_isHeap : GoodIn wsX12_odds (wsV RX12 164 RX12 yX12_isHeap wsX12_isHeap) := goodIn_app (goodIn_of _ (by decide +kernel)) ggX12_odds_X12_isHeap
set_option maxRecDepth 20000 in
theorem ggX12_odds_X12_isCell : GoodIn wsX12_odds wsX12_isCell := goodIn_r _ [14, 9, 10, 7, 11] (by decide +kernel) (by decide +kernel)
set_option maxRecDepth 20000 in
theorem gX12_odds_X12_isCell : GoodIn wsX12_odds (va_wsS RX12 149 yX12_isCell wsX12_isCell) := goodIn_app (goodIn_of _ (by decide +kernel)) ggX12_odds_X12_isCell
set_option maxRecDepth 20000 in
theorem ggX12_odds_X12_in : GoodIn wsX12_odds wsX12_in := goodIn_r _ [11] (by decide +kernel) (by decide +kernel)
set_option maxRecDepth 20000 in
theorem gX12_odds_X12_in : GoodIn wsX12_odds (va_wsS RX12 45 yX12_in wsX12_in) := goodIn_app (goodIn_of _ (by decide +kernel)) ggX12_odds_X12_in
set_option maxRecDepth 20000 in
theorem ggX12_odds_X12_looksForDrifts : GoodIn wsX12_odds wsX12_looksForDrifts := goodIn_r _ [18, 19, 20, 21, 22, 7, 23, 24, 25, 26, 27, 28, 29, 2, 30, 31, 83, 84, 85, 86, 87, 88, 89, 90, 91, 92, 93, 94, 95, 96, 97, 98, 99, 100, 101, 102, 103, 104, 105] (by decide +kernel) (by decide +kernel)
set_option maxRecDepth 20000 in
theorem gX12_odds_X12_looksForDrifts : GoodIn wsX12_odds (wsV RX12 209 RX12 yX12_looksForDrifts wsX12_looksForDrifts) := goodIn_app (goodIn_of _ (by decide +kernel)) ggX12_odds_X12_looksForDrifts
set_option maxRecDepth 20000 in
theorem ggX12_odds_X12_begins : GoodIn wsX12_odds wsX12_begins := goodIn_r _ [35, 3, 83, 84, 85, 86, 87, 88, 89, 90, 91, 92, 93, 94, 95, 96, 97, 98, 99, 100, 101, 102, 103, 104, 105] (by decide +kernel) (by decide +kernel)
set_option maxRecDepth 20000 in
theorem gX12_odds_X12_begins : GoodIn wsX12_odds (wsV RX12 212 RX12 yX12_begins wsX12_begins) := goodIn_app (goodIn_of _ (by decide +kernel)) ggX12_odds_X12_begins
set_option maxRecDepth 20000 in
theorem ggX12_odds_X12_goesOn : GoodIn wsX12_odds wsX12_goesOn := goodIn_r _ [39, 40, 3, 2, 41, 19, 42, 43, 7, 44, 45, 46, 47, 48, 49, 50, 9, 10, 11, 83, 84, 85, 86, 87, 88, 89, 90, 91, 92, 93, 94, 95, 96, 97, 98, 99, 100, 101, 102, 103, 104, 105] (by decide +kernel) (by decide +kernel)
set_option maxRecDepth 20000 in
theorem gX12_odds_X12_goesOn : GoodIn wsX12_odds (wsV RX12 215 RX12 yX12_goesOn wsX12_goesOn) := goodIn_app (goodIn_of _ (by decide +kernel)) ggX12_odds_X12_goesOn
set_option maxRecDepth 20000 in
theorem ggX12_odds_X12_seen : GoodIn wsX12_odds wsX12_seen := goodIn_r _ [54, 2, 3, 55, 56, 57, 7, 58, 59, 60, 61, 62, 63, 64, 65, 66, 67, 68, 30, 25, 26, 27, 28, 29, 24, 31, 69, 70, 71, 72, 83, 84, 85, 86, 87, 88, 89, 90, 91, 92, 93, 94, 95, 96, 97, 98, 99, 100, 101, 102, 103, 104, 105] (by decide +kernel) (by decide +kernel)
set_option maxRecDepth 20000 in
theorem gX12_odds_X12_seen : GoodIn wsX12_odds (wsV RX12 218 RX12 yX12_seen wsX12_seen) := goodIn_app (goodIn_of _ (by decide +kernel)) ggX12_odds_X12_seen
set_option maxRecDepth 20000 in
theorem ggX12_odds_X12_over : GoodIn wsX12_odds wsX12_over := goodIn_r _ [76, 2, 3, 83, 84, 85, 86, 87, 88, 89, 90, 91, 92, 93, 94, 95, 96, 97, 98, 99, 100, 101, 102, 103, 104, 105] (by decide +kernel) (by decide +kernel)
set_option maxRecDepth 20000 in
theorem gX12_odds_X12_over : GoodIn wsX12_odds (wsV RX12 222 RX12 yX12_over wsX12_over) := goodIn_app (goodIn_of _ (by decide +kernel)) ggX12_odds_X12_over
set_option maxRecDepth 20000 in
theorem ggX12_odds_X12_twenties : GoodIn wsX12_odds wsX12_twenties := goodIn_r _ [79, 41] (by decide +kernel) (by decide +kernel)
set_option maxRecDepth 20000 in
theorem gX12_odds_X12_twenties : GoodIn wsX12_odds (va_wsS RX12 226 yX12_twenties wsX12_twenties) := goodIn_app (goodIn_of _ (by decide +kernel)) ggX12_odds_X12_twenties
set_option maxRecDepth 20000 in
theorem ggX12_odds_X12_lowest : GoodIn wsX12_odds wsX12_lowest := goodIn_r _ [82] (by decide +kernel) (by decide +kernel)
set_option maxRecDepth 20000 in
theorem gX12_odds_X12_lowest : GoodIn wsX12_odds (va_wsS RX12 229 yX12_lowest wsX12_lowest) := goodIn_app (goodIn_of _ (by decide +kernel)) ggX12_odds_X12_lowest
theorem dX12_odds_0 : decode cX12_odds 0 = .ok (.iload_n 2, 1) := by decide +kernel
theorem dX12_odds_1 : decode cX12_odds 1 = .ok (.bipush 50, 2) := by decide +kernel
theorem dX12_odds_3 : decode cX12_odds 3 = .ok (.if_icmp .lt 18, 3) := by decide +kernel
theorem dX12_odds_6 : decode cX12_odds 6 = .ok (.aload_n 0, 1) := by decide +kernel
theorem dX12_odds_7 : decode cX12_odds 7 = .ok (.iload_n 2, 1) := by decide +kernel
theorem dX12_odds_8 : decode cX12_odds 8 = .ok (.bipush 50, 2) := by decide +kernel
theorem dX12_odds_10 : decode cX12_odds 10 = .ok (.isub, 1) := by decide +kernel
theorem dX12_odds_11 : decode cX12_odds 11 = .ok (.invokevirtual 164, 3) := by decide +kernel
theorem dX12_odds_14 : decode cX12_odds 14 = .ok (.ifCond .eq 7, 3) := by decide +kernel
theorem dX12_odds_17 : decode cX12_odds 17 = .ok (.iconst 1, 1) := by decide +kernel
theorem dX12_odds_18 : decode cX12_odds 18 = .ok (.goto 4, 3) := by decide +kernel
theorem dX12_odds_21 : decode cX12_odds 21 = .ok (.iconst 0, 1) := by decide +kernel
theorem dX12_odds_22 : decode cX12_odds 22 = .ok (.istore 4, 2) := by decide +kernel
theorem dX12_odds_24 : decode cX12_odds 24 = .ok (.iload_n 1, 1) := by decide +kernel
theorem dX12_odds_25 : decode cX12_odds 25 = .ok (.invokestatic 149, 3) := by decide +kernel
theorem dX12_odds_28 : decode cX12_odds 28 = .ok (.ifCond .eq 30, 3) := by decide +kernel
theorem dX12_odds_31 : decode cX12_odds 31 = .ok (.iload_n 2, 1) := by decide +kernel
theorem dX12_odds_32 : decode cX12_odds 32 = .ok (.invokestatic 149, 3) := by decide +kernel
theorem dX12_odds_35 : decode cX12_odds 35 = .ok (.ifCond .ne 14, 3) := by decide +kernel
theorem dX12_odds_38 : decode cX12_odds 38 = .ok (.iload_n 2, 1) := by decide +kernel
theorem dX12_odds_39 : decode cX12_odds 39 = .ok (.bipush 40, 2) := by decide +kernel
theorem dX12_odds_41 : decode cX12_odds 41 = .ok (.if_icmp .eq 8, 3) := by decide +kernel
theorem dX12_odds_44 : decode cX12_odds 44 = .ok (.iload 4, 2) := by decide +kernel
theorem dX12_odds_46 : decode cX12_odds 46 = .ok (.ifCond .eq 12, 3) := by decide +kernel
theorem dX12_odds_49 : decode cX12_odds 49 = .ok (.iload_n 3, 1) := by decide +kernel
theorem dX12_odds_50 : decode cX12_odds 50 = .ok (.iconst 0, 1) := by decide +kernel
theorem dX12_odds_51 : decode cX12_odds 51 = .ok (.iconst 1, 1) := by decide +kernel
theorem dX12_odds_52 : decode cX12_odds 52 = .ok (.invokestatic 45, 3) := by decide +kernel
theorem dX12_odds_55 : decode cX12_odds 55 = .ok (.ifCond .ne 7, 3) := by decide +kernel
theorem dX12_odds_58 : decode cX12_odds 58 = .ok (.ldc2_w 181, 3) := by decide +kernel
theorem dX12_odds_61 : decode cX12_odds 61 = .ok (.lreturn, 1) := by decide +kernel
theorem dX12_odds_62 : decode cX12_odds 62 = .ok (.aload_n 0, 1) := by decide +kernel
theorem dX12_odds_63 : decode cX12_odds 63 = .ok (.invokevirtual 209, 3) := by decide +kernel
theorem dX12_odds_66 : decode cX12_odds 66 = .ok (.aload_n 0, 1) := by decide +kernel
theorem dX12_odds_67 : decode cX12_odds 67 = .ok (.iload_n 1, 1) := by decide +kernel
theorem dX12_odds_68 : decode cX12_odds 68 = .ok (.invokevirtual 212, 3) := by decide +kernel
theorem dX12_odds_71 : decode cX12_odds 71 = .ok (.iconst 0, 1) := by decide +kernel
theorem dX12_odds_72 : decode cX12_odds 72 = .ok (.istore 5, 2) := by decide +kernel
theorem dX12_odds_74 : decode cX12_odds 74 = .ok (.iload 5, 2) := by decide +kernel
theorem dX12_odds_76 : decode cX12_odds 76 = .ok (.aload_n 0, 1) := by decide +kernel
theorem dX12_odds_77 : decode cX12_odds 77 = .ok (.getfield 9, 3) := by decide +kernel
theorem dX12_odds_80 : decode cX12_odds 80 = .ok (.iconst 2, 1) := by decide +kernel
theorem dX12_odds_81 : decode cX12_odds 81 = .ok (.iaload, 1) := by decide +kernel
theorem dX12_odds_82 : decode cX12_odds 82 = .ok (.if_icmp .ge 23, 3) := by decide +kernel
theorem dX12_odds_85 : decode cX12_odds 85 = .ok (.aload_n 0, 1) := by decide +kernel
theorem dX12_odds_86 : decode cX12_odds 86 = .ok (.aload_n 0, 1) := by decide +kernel
theorem dX12_odds_87 : decode cX12_odds 87 = .ok (.getfield 9, 3) := by decide +kernel
theorem dX12_odds_90 : decode cX12_odds 90 = .ok (.bipush 73, 2) := by decide +kernel
theorem dX12_odds_92 : decode cX12_odds 92 = .ok (.iload 5, 2) := by decide +kernel
theorem dX12_odds_94 : decode cX12_odds 94 = .ok (.iadd, 1) := by decide +kernel
theorem dX12_odds_95 : decode cX12_odds 95 = .ok (.iaload, 1) := by decide +kernel
theorem dX12_odds_96 : decode cX12_odds 96 = .ok (.invokevirtual 215, 3) := by decide +kernel
theorem dX12_odds_99 : decode cX12_odds 99 = .ok (.iinc 5 1, 3) := by decide +kernel
theorem dX12_odds_102 : decode cX12_odds 102 = .ok (.goto (-28), 3) := by decide +kernel
theorem dX12_odds_105 : decode cX12_odds 105 = .ok (.iload 4, 2) := by decide +kernel
theorem dX12_odds_107 : decode cX12_odds 107 = .ok (.ifCond .eq 14, 3) := by decide +kernel
theorem dX12_odds_110 : decode cX12_odds 110 = .ok (.aload_n 0, 1) := by decide +kernel
theorem dX12_odds_111 : decode cX12_odds 111 = .ok (.iload_n 2, 1) := by decide +kernel
theorem dX12_odds_112 : decode cX12_odds 112 = .ok (.bipush 50, 2) := by decide +kernel
theorem dX12_odds_114 : decode cX12_odds 114 = .ok (.isub, 1) := by decide +kernel
theorem dX12_odds_115 : decode cX12_odds 115 = .ok (.invokevirtual 218, 3) := by decide +kernel
theorem dX12_odds_118 : decode cX12_odds 118 = .ok (.goto 22, 3) := by decide +kernel
theorem dX12_odds_121 : decode cX12_odds 121 = .ok (.iload_n 2, 1) := by decide +kernel
theorem dX12_odds_122 : decode cX12_odds 122 = .ok (.bipush 40, 2) := by decide +kernel
theorem dX12_odds_124 : decode cX12_odds 124 = .ok (.if_icmp .ne 10, 3) := by decide +kernel
theorem dX12_odds_127 : decode cX12_odds 127 = .ok (.aload_n 0, 1) := by decide +kernel
theorem dX12_odds_128 : decode cX12_odds 128 = .ok (.invokevirtual 222, 3) := by decide +kernel
theorem dX12_odds_131 : decode cX12_odds 131 = .ok (.goto 9, 3) := by decide +kernel
theorem dX12_odds_134 : decode cX12_odds 134 = .ok (.aload_n 0, 1) := by decide +kernel
theorem dX12_odds_135 : decode cX12_odds 135 = .ok (.getfield 28, 3) := by decide +kernel
theorem dX12_odds_138 : decode cX12_odds 138 = .ok (.iload_n 2, 1) := by decide +kernel
theorem dX12_odds_139 : decode cX12_odds 139 = .ok (.laload, 1) := by decide +kernel
theorem dX12_odds_140 : decode cX12_odds 140 = .ok (.lstore 5, 2) := by decide +kernel
theorem dX12_odds_142 : decode cX12_odds 142 = .ok (.lload 5, 2) := by decide +kernel
theorem dX12_odds_144 : decode cX12_odds 144 = .ok (.aload_n 0, 1) := by decide +kernel
theorem dX12_odds_145 : decode cX12_odds 145 = .ok (.getfield 9, 3) := by decide +kernel
theorem dX12_odds_148 : decode cX12_odds 148 = .ok (.iconst 2, 1) := by decide +kernel
theorem dX12_odds_149 : decode cX12_odds 149 = .ok (.iaload, 1) := by decide +kernel
theorem dX12_odds_150 : decode cX12_odds 150 = .ok (.invokestatic 226, 3) := by decide +kernel
theorem dX12_odds_153 : decode cX12_odds 153 = .ok (.iload_n 3, 1) := by decide +kernel
theorem dX12_odds_154 : decode cX12_odds 154 = .ok (.invokestatic 229, 3) := by decide +kernel
theorem dX12_odds_157 : decode cX12_odds 157 = .ok (.lreturn, 1) := by decide +kernel
set_option maxRecDepth 20000 in
theorem ggX12_goesBy_X12_begins : GoodIn wsX12_goesBy wsX12_begins := goodIn_r _ [5, 6, 27, 28, 29, 30, 31, 32, 33, 34, 35, 36, 37, 38, 39, 40, 41, 42, 43, 44, 45, 46, 47, 48, 49] (by decide +kernel) (by decide +kernel)
set_option maxRecDepth 20000 in
theorem gX12_goesBy_X12_begins : GoodIn wsX12_goesBy (wsV RX12 212 RX12 yX12_begins wsX12_begins) := goodIn_app (goodIn_of _ (by decide +kernel)) ggX12_goesBy_X12_begins
set_option maxRecDepth 20000 in
theorem ggX12_goesBy_X12_goesOn : GoodIn wsX12_goesBy wsX12_goesOn := goodIn_r _ [10, 11, 6, 12, 13, 14, 15, 16, 4, 17, 18, 19, 20, 21, 22, 23, 24, 25, 26, 27, 28, 29, 30, 31, 32, 33, 34, 35, 36, 37, 38, 39, 40, 41, 42, 43, 44, 45, 46, 47, 48, 49] (by decide +kernel) (by decide +kernel)
set_option maxRecDepth 20000 in
theorem gX12_goesBy_X12_goesOn : GoodIn wsX12_goesBy (wsV RX12 215 RX12 yX12_goesOn wsX12_goesOn) := goodIn_app (goodIn_of _ (by decide +kernel)) ggX12_goesBy_X12_goesOn
theorem dX12_goesBy_0 : decode cX12_goesBy 0 = .ok (.aload_n 0, 1) := by decide +kernel
theorem dX12_goesBy_1 : decode cX12_goesBy 1 = .ok (.iload_n 1, 1) := by decide +kernel
theorem dX12_goesBy_2 : decode cX12_goesBy 2 = .ok (.invokevirtual 212, 3) := by decide +kernel
theorem dX12_goesBy_5 : decode cX12_goesBy 5 = .ok (.iload_n 3, 1) := by decide +kernel
theorem dX12_goesBy_6 : decode cX12_goesBy 6 = .ok (.istore 4, 2) := by decide +kernel
theorem dX12_goesBy_8 : decode cX12_goesBy 8 = .ok (.iload 4, 2) := by decide +kernel
theorem dX12_goesBy_10 : decode cX12_goesBy 10 = .ok (.ifCond .le 50, 3) := by decide +kernel
theorem dX12_goesBy_13 : decode cX12_goesBy 13 = .ok (.iinc 4 (-1), 3) := by decide +kernel
theorem dX12_goesBy_16 : decode cX12_goesBy 16 = .ok (.iload 4, 2) := by decide +kernel
theorem dX12_goesBy_18 : decode cX12_goesBy 18 = .ok (.iconst 2, 1) := by decide +kernel
theorem dX12_goesBy_19 : decode cX12_goesBy 19 = .ok (.if_icmp .ne 10, 3) := by decide +kernel
theorem dX12_goesBy_22 : decode cX12_goesBy 22 = .ok (.iload_n 2, 1) := by decide +kernel
theorem dX12_goesBy_23 : decode cX12_goesBy 23 = .ok (.bipush 64, 2) := by decide +kernel
theorem dX12_goesBy_25 : decode cX12_goesBy 25 = .ok (.idiv, 1) := by decide +kernel
theorem dX12_goesBy_26 : decode cX12_goesBy 26 = .ok (.goto 23, 3) := by decide +kernel
theorem dX12_goesBy_29 : decode cX12_goesBy 29 = .ok (.iload 4, 2) := by decide +kernel
theorem dX12_goesBy_31 : decode cX12_goesBy 31 = .ok (.iconst 1, 1) := by decide +kernel
theorem dX12_goesBy_32 : decode cX12_goesBy 32 = .ok (.if_icmp .ne 13, 3) := by decide +kernel
theorem dX12_goesBy_35 : decode cX12_goesBy 35 = .ok (.iload_n 2, 1) := by decide +kernel
theorem dX12_goesBy_36 : decode cX12_goesBy 36 = .ok (.bipush 8, 2) := by decide +kernel
theorem dX12_goesBy_38 : decode cX12_goesBy 38 = .ok (.idiv, 1) := by decide +kernel
theorem dX12_goesBy_39 : decode cX12_goesBy 39 = .ok (.bipush 8, 2) := by decide +kernel
theorem dX12_goesBy_41 : decode cX12_goesBy 41 = .ok (.irem, 1) := by decide +kernel
theorem dX12_goesBy_42 : decode cX12_goesBy 42 = .ok (.goto 7, 3) := by decide +kernel
theorem dX12_goesBy_45 : decode cX12_goesBy 45 = .ok (.iload_n 2, 1) := by decide +kernel
theorem dX12_goesBy_46 : decode cX12_goesBy 46 = .ok (.bipush 8, 2) := by decide +kernel
theorem dX12_goesBy_48 : decode cX12_goesBy 48 = .ok (.irem, 1) := by decide +kernel
theorem dX12_goesBy_49 : decode cX12_goesBy 49 = .ok (.istore 5, 2) := by decide +kernel
theorem dX12_goesBy_51 : decode cX12_goesBy 51 = .ok (.aload_n 0, 1) := by decide +kernel
theorem dX12_goesBy_52 : decode cX12_goesBy 52 = .ok (.iload 5, 2) := by decide +kernel
theorem dX12_goesBy_54 : decode cX12_goesBy 54 = .ok (.invokevirtual 215, 3) := by decide +kernel
theorem dX12_goesBy_57 : decode cX12_goesBy 57 = .ok (.goto (-49), 3) := by decide +kernel
theorem dX12_goesBy_60 : decode cX12_goesBy 60 = .ok (.return_, 1) := by decide +kernel
set_option maxRecDepth 20000 in
theorem ggX12_bestRow_X12_looksForDrifts : GoodIn wsX12_bestRow wsX12_looksForDrifts := goodIn_r _ [7, 8, 9, 10, 11, 6, 12, 13, 14, 15, 16, 17, 18, 19, 20, 21, 52, 53, 54, 55, 56, 57, 58, 59, 60, 61, 62, 63, 64, 65, 66, 67, 68, 69, 70, 71, 72, 73, 74] (by decide +kernel) (by decide +kernel)
set_option maxRecDepth 20000 in
theorem gX12_bestRow_X12_looksForDrifts : GoodIn wsX12_bestRow (wsV RX12 209 RX12 yX12_looksForDrifts wsX12_looksForDrifts) := goodIn_app (goodIn_of _ (by decide +kernel)) ggX12_bestRow_X12_looksForDrifts
set_option maxRecDepth 20000 in
theorem ggX12_bestRow_X12_goesBy : GoodIn wsX12_bestRow wsX12_goesBy := goodIn_r _ [25, 26, 27, 28, 6, 29, 1, 30, 31, 32, 33, 34, 19, 35, 8, 36, 37, 38, 39, 40, 41, 42, 43, 44, 45, 46, 47, 52, 53, 54, 55, 56, 57, 58, 59, 60, 61, 62, 63, 64, 65, 66, 67, 68, 69, 70, 71, 72, 73, 74] (by decide +kernel) (by decide +kernel)
set_option maxRecDepth 20000 in
theorem gX12_bestRow_X12_goesBy : GoodIn wsX12_bestRow (wsV RX12 233 RX12 yX12_goesBy wsX12_goesBy) := goodIn_app (goodIn_of _ (by decide +kernel)) ggX12_bestRow_X12_goesBy
set_option maxRecDepth 20000 in
theorem ggX12_bestRow_X12_over : GoodIn wsX12_bestRow wsX12_over := goodIn_r _ [51, 19, 1, 52, 53, 54, 55, 56, 57, 58, 59, 60, 61, 62, 63, 64, 65, 66, 67, 68, 69, 70, 71, 72, 73, 74] (by decide +kernel) (by decide +kernel)
set_option maxRecDepth 20000 in
theorem gX12_bestRow_X12_over : GoodIn wsX12_bestRow (wsV RX12 222 RX12 yX12_over wsX12_over) := goodIn_app (goodIn_of _ (by decide +kernel)) ggX12_bestRow_X12_over
theorem dX12_bestRow_0 : decode cX12_bestRow 0 = .ok (.aload_n 0, 1) := by decide +kernel
theorem dX12_bestRow_1 : decode cX12_bestRow 1 = .ok (.invokevirtual 209, 3) := by decide +kernel
theorem dX12_bestRow_4 : decode cX12_bestRow 4 = .ok (.iload_n 3, 1) := by decide +kernel
theorem dX12_bestRow_5 : decode cX12_bestRow 5 = .ok (.iconst 1, 1) := by decide +kernel
theorem dX12_bestRow_6 : decode cX12_bestRow 6 = .ok (.if_icmp .ne 8, 3) := by decide +kernel
theorem dX12_bestRow_9 : decode cX12_bestRow 9 = .ok (.bipush 8, 2) := by decide +kernel
theorem dX12_bestRow_11 : decode cX12_bestRow 11 = .ok (.goto 16, 3) := by decide +kernel
theorem dX12_bestRow_14 : decode cX12_bestRow 14 = .ok (.iload_n 3, 1) := by decide +kernel
theorem dX12_bestRow_15 : decode cX12_bestRow 15 = .ok (.iconst 2, 1) := by decide +kernel
theorem dX12_bestRow_16 : decode cX12_bestRow 16 = .ok (.if_icmp .ne 8, 3) := by decide +kernel
theorem dX12_bestRow_19 : decode cX12_bestRow 19 = .ok (.bipush 64, 2) := by decide +kernel
theorem dX12_bestRow_21 : decode cX12_bestRow 21 = .ok (.goto 6, 3) := by decide +kernel
theorem dX12_bestRow_24 : decode cX12_bestRow 24 = .ok (.sipush 512, 3) := by decide +kernel
theorem dX12_bestRow_27 : decode cX12_bestRow 27 = .ok (.istore 4, 2) := by decide +kernel
theorem dX12_bestRow_29 : decode cX12_bestRow 29 = .ok (.iconst (-1), 1) := by decide +kernel
theorem dX12_bestRow_30 : decode cX12_bestRow 30 = .ok (.istore 5, 2) := by decide +kernel
theorem dX12_bestRow_32 : decode cX12_bestRow 32 = .ok (.iconst 0, 1) := by decide +kernel
theorem dX12_bestRow_33 : decode cX12_bestRow 33 = .ok (.istore 6, 2) := by decide +kernel
theorem dX12_bestRow_35 : decode cX12_bestRow 35 = .ok (.iload 6, 2) := by decide +kernel
theorem dX12_bestRow_37 : decode cX12_bestRow 37 = .ok (.iload 4, 2) := by decide +kernel
theorem dX12_bestRow_39 : decode cX12_bestRow 39 = .ok (.if_icmp .ge 93, 3) := by decide +kernel
theorem dX12_bestRow_42 : decode cX12_bestRow 42 = .ok (.aload_n 0, 1) := by decide +kernel
theorem dX12_bestRow_43 : decode cX12_bestRow 43 = .ok (.iload_n 1, 1) := by decide +kernel
theorem dX12_bestRow_44 : decode cX12_bestRow 44 = .ok (.iload 6, 2) := by decide +kernel
theorem dX12_bestRow_46 : decode cX12_bestRow 46 = .ok (.iload_n 3, 1) := by decide +kernel
theorem dX12_bestRow_47 : decode cX12_bestRow 47 = .ok (.invokevirtual 233, 3) := by decide +kernel
theorem dX12_bestRow_50 : decode cX12_bestRow 50 = .ok (.iload_n 2, 1) := by decide +kernel
theorem dX12_bestRow_51 : decode cX12_bestRow 51 = .ok (.iconst (-1), 1) := by decide +kernel
theorem dX12_bestRow_52 : decode cX12_bestRow 52 = .ok (.if_icmp .ne 11, 3) := by decide +kernel
theorem dX12_bestRow_55 : decode cX12_bestRow 55 = .ok (.aload_n 0, 1) := by decide +kernel
theorem dX12_bestRow_56 : decode cX12_bestRow 56 = .ok (.invokevirtual 222, 3) := by decide +kernel
theorem dX12_bestRow_59 : decode cX12_bestRow 59 = .ok (.lneg, 1) := by decide +kernel
theorem dX12_bestRow_60 : decode cX12_bestRow 60 = .ok (.goto 9, 3) := by decide +kernel
theorem dX12_bestRow_63 : decode cX12_bestRow 63 = .ok (.aload_n 0, 1) := by decide +kernel
theorem dX12_bestRow_64 : decode cX12_bestRow 64 = .ok (.getfield 28, 3) := by decide +kernel
theorem dX12_bestRow_67 : decode cX12_bestRow 67 = .ok (.iload_n 2, 1) := by decide +kernel
theorem dX12_bestRow_68 : decode cX12_bestRow 68 = .ok (.laload, 1) := by decide +kernel
theorem dX12_bestRow_69 : decode cX12_bestRow 69 = .ok (.lstore 7, 2) := by decide +kernel
theorem dX12_bestRow_71 : decode cX12_bestRow 71 = .ok (.iload 5, 2) := by decide +kernel
theorem dX12_bestRow_73 : decode cX12_bestRow 73 = .ok (.iconst (-1), 1) := by decide +kernel
theorem dX12_bestRow_74 : decode cX12_bestRow 74 = .ok (.if_icmp .eq 13, 3) := by decide +kernel
theorem dX12_bestRow_77 : decode cX12_bestRow 77 = .ok (.lload 7, 2) := by decide +kernel
theorem dX12_bestRow_79 : decode cX12_bestRow 79 = .ok (.aload_n 0, 1) := by decide +kernel
theorem dX12_bestRow_80 : decode cX12_bestRow 80 = .ok (.getfield 236, 3) := by decide +kernel
theorem dX12_bestRow_83 : decode cX12_bestRow 83 = .ok (.lcmp, 1) := by decide +kernel
theorem dX12_bestRow_84 : decode cX12_bestRow 84 = .ok (.ifCond .le 7, 3) := by decide +kernel
theorem dX12_bestRow_87 : decode cX12_bestRow 87 = .ok (.iconst 1, 1) := by decide +kernel
theorem dX12_bestRow_88 : decode cX12_bestRow 88 = .ok (.goto 4, 3) := by decide +kernel
theorem dX12_bestRow_91 : decode cX12_bestRow 91 = .ok (.iconst 0, 1) := by decide +kernel
theorem dX12_bestRow_92 : decode cX12_bestRow 92 = .ok (.istore 9, 2) := by decide +kernel
theorem dX12_bestRow_94 : decode cX12_bestRow 94 = .ok (.iload 9, 2) := by decide +kernel
theorem dX12_bestRow_96 : decode cX12_bestRow 96 = .ok (.ifCond .eq 8, 3) := by decide +kernel
theorem dX12_bestRow_99 : decode cX12_bestRow 99 = .ok (.iload 6, 2) := by decide +kernel
theorem dX12_bestRow_101 : decode cX12_bestRow 101 = .ok (.goto 5, 3) := by decide +kernel
theorem dX12_bestRow_104 : decode cX12_bestRow 104 = .ok (.iload 5, 2) := by decide +kernel
theorem dX12_bestRow_106 : decode cX12_bestRow 106 = .ok (.istore 5, 2) := by decide +kernel
theorem dX12_bestRow_108 : decode cX12_bestRow 108 = .ok (.aload_n 0, 1) := by decide +kernel
theorem dX12_bestRow_109 : decode cX12_bestRow 109 = .ok (.iload 9, 2) := by decide +kernel
theorem dX12_bestRow_111 : decode cX12_bestRow 111 = .ok (.ifCond .eq 8, 3) := by decide +kernel
theorem dX12_bestRow_114 : decode cX12_bestRow 114 = .ok (.lload 7, 2) := by decide +kernel
theorem dX12_bestRow_116 : decode cX12_bestRow 116 = .ok (.goto 7, 3) := by decide +kernel
theorem dX12_bestRow_119 : decode cX12_bestRow 119 = .ok (.aload_n 0, 1) := by decide +kernel
theorem dX12_bestRow_120 : decode cX12_bestRow 120 = .ok (.getfield 236, 3) := by decide +kernel
theorem dX12_bestRow_123 : decode cX12_bestRow 123 = .ok (.putfield 236, 3) := by decide +kernel
theorem dX12_bestRow_126 : decode cX12_bestRow 126 = .ok (.iinc 6 1, 3) := by decide +kernel
theorem dX12_bestRow_129 : decode cX12_bestRow 129 = .ok (.goto (-94), 3) := by decide +kernel
theorem dX12_bestRow_132 : decode cX12_bestRow 132 = .ok (.iload 5, 2) := by decide +kernel
theorem dX12_bestRow_134 : decode cX12_bestRow 134 = .ok (.ireturn, 1) := by decide +kernel
theorem dX12_wayOf_0 : decode cX12_wayOf 0 = .ok (.iload_n 1, 1) := by decide +kernel
theorem dX12_wayOf_1 : decode cX12_wayOf 1 = .ok (.iconst 1, 1) := by decide +kernel
theorem dX12_wayOf_2 : decode cX12_wayOf 2 = .ok (.isub, 1) := by decide +kernel
theorem dX12_wayOf_3 : decode cX12_wayOf 3 = .ok (.iload_n 2, 1) := by decide +kernel
theorem dX12_wayOf_4 : decode cX12_wayOf 4 = .ok (.isub, 1) := by decide +kernel
theorem dX12_wayOf_5 : decode cX12_wayOf 5 = .ok (.istore_n 3, 1) := by decide +kernel
theorem dX12_wayOf_6 : decode cX12_wayOf 6 = .ok (.iload_n 3, 1) := by decide +kernel
theorem dX12_wayOf_7 : decode cX12_wayOf 7 = .ok (.iconst 2, 1) := by decide +kernel
theorem dX12_wayOf_8 : decode cX12_wayOf 8 = .ok (.if_icmp .ne 10, 3) := by decide +kernel
theorem dX12_wayOf_11 : decode cX12_wayOf 11 = .ok (.iload_n 0, 1) := by decide +kernel
theorem dX12_wayOf_12 : decode cX12_wayOf 12 = .ok (.bipush 64, 2) := by decide +kernel
theorem dX12_wayOf_14 : decode cX12_wayOf 14 = .ok (.idiv, 1) := by decide +kernel
theorem dX12_wayOf_15 : decode cX12_wayOf 15 = .ok (.goto 22, 3) := by decide +kernel
theorem dX12_wayOf_18 : decode cX12_wayOf 18 = .ok (.iload_n 3, 1) := by decide +kernel
theorem dX12_wayOf_19 : decode cX12_wayOf 19 = .ok (.iconst 1, 1) := by decide +kernel
theorem dX12_wayOf_20 : decode cX12_wayOf 20 = .ok (.if_icmp .ne 13, 3) := by decide +kernel
theorem dX12_wayOf_23 : decode cX12_wayOf 23 = .ok (.iload_n 0, 1) := by decide +kernel
theorem dX12_wayOf_24 : decode cX12_wayOf 24 = .ok (.bipush 8, 2) := by decide +kernel
theorem dX12_wayOf_26 : decode cX12_wayOf 26 = .ok (.idiv, 1) := by decide +kernel
theorem dX12_wayOf_27 : decode cX12_wayOf 27 = .ok (.bipush 8, 2) := by decide +kernel
theorem dX12_wayOf_29 : decode cX12_wayOf 29 = .ok (.irem, 1) := by decide +kernel
theorem dX12_wayOf_30 : decode cX12_wayOf 30 = .ok (.goto 7, 3) := by decide +kernel
theorem dX12_wayOf_33 : decode cX12_wayOf 33 = .ok (.iload_n 0, 1) := by decide +kernel
theorem dX12_wayOf_34 : decode cX12_wayOf 34 = .ok (.bipush 8, 2) := by decide +kernel
theorem dX12_wayOf_36 : decode cX12_wayOf 36 = .ok (.irem, 1) := by decide +kernel
theorem dX12_wayOf_37 : decode cX12_wayOf 37 = .ok (.ireturn, 1) := by decide +kernel
set_option maxRecDepth 20000 in
theorem ggX12_best_X12_isCell : GoodIn wsX12_best wsX12_isCell := goodIn_r _ [4, 5, 6, 3, 7] (by decide +kernel) (by decide +kernel)
set_option maxRecDepth 20000 in
theorem gX12_best_X12_isCell : GoodIn wsX12_best (va_wsS RX12 149 yX12_isCell wsX12_isCell) := goodIn_app (goodIn_of _ (by decide +kernel)) ggX12_best_X12_isCell
set_option maxRecDepth 20000 in
theorem ggX12_best_X12_in : GoodIn wsX12_best wsX12_in := goodIn_r _ [7] (by decide +kernel) (by decide +kernel)
set_option maxRecDepth 20000 in
theorem gX12_best_X12_in : GoodIn wsX12_best (va_wsS RX12 45 yX12_in wsX12_in) := goodIn_app (goodIn_of _ (by decide +kernel)) ggX12_best_X12_in
set_option maxRecDepth 20000 in
theorem ggX12_best_X12_bestRow : GoodIn wsX12_best wsX12_bestRow := goodIn_r _ [11, 12, 13, 14, 15, 16, 3, 17, 18, 19, 20, 21, 22, 23, 24, 25, 26, 27, 28, 29, 30, 31, 32, 33, 34, 35, 36, 37, 38, 39, 40, 41, 42, 43, 44, 45, 46, 47, 48, 49, 50, 51, 52, 53, 54, 5, 6, 7, 55, 56, 57, 58, 62, 63, 64, 65, 66, 67, 68, 69, 70, 71, 72, 73, 74, 75, 76, 77, 78, 79, 80, 81, 82, 83, 84] (by decide +kernel) (by decide +kernel)
set_option maxRecDepth 20000 in
theorem gX12_best_X12_bestRow : GoodIn wsX12_best (wsV RX12 240 RX12 yX12_bestRow wsX12_bestRow) := goodIn_app (goodIn_of _ (by decide +kernel)) ggX12_best_X12_bestRow
set_option maxRecDepth 20000 in
theorem ggX12_best_X12_wayOf : GoodIn wsX12_best wsX12_wayOf := goodIn_r _ [61] (by decide +kernel) (by decide +kernel)
set_option maxRecDepth 20000 in
theorem gX12_best_X12_wayOf : GoodIn wsX12_best (va_wsS RX12 243 yX12_wayOf wsX12_wayOf) := goodIn_app (goodIn_of _ (by decide +kernel)) ggX12_best_X12_wayOf
theorem dX12_best_0 : decode cX12_best 0 = .ok (.iload_n 1, 1) := by decide +kernel
theorem dX12_best_1 : decode cX12_best 1 = .ok (.invokestatic 149, 3) := by decide +kernel
theorem dX12_best_4 : decode cX12_best 4 = .ok (.ifCond .eq 20, 3) := by decide +kernel
theorem dX12_best_7 : decode cX12_best 7 = .ok (.iload_n 2, 1) := by decide +kernel
theorem dX12_best_8 : decode cX12_best 8 = .ok (.invokestatic 149, 3) := by decide +kernel
theorem dX12_best_11 : decode cX12_best 11 = .ok (.ifCond .eq 13, 3) := by decide +kernel
theorem dX12_best_14 : decode cX12_best 14 = .ok (.iload 4, 2) := by decide +kernel
theorem dX12_best_16 : decode cX12_best 16 = .ok (.iconst 0, 1) := by decide +kernel
theorem dX12_best_17 : decode cX12_best 17 = .ok (.iconst 2, 1) := by decide +kernel
theorem dX12_best_18 : decode cX12_best 18 = .ok (.invokestatic 45, 3) := by decide +kernel
theorem dX12_best_21 : decode cX12_best 21 = .ok (.ifCond .ne 5, 3) := by decide +kernel
theorem dX12_best_24 : decode cX12_best 24 = .ok (.iconst (-1), 1) := by decide +kernel
theorem dX12_best_25 : decode cX12_best 25 = .ok (.ireturn, 1) := by decide +kernel
theorem dX12_best_26 : decode cX12_best 26 = .ok (.iload_n 3, 1) := by decide +kernel
theorem dX12_best_27 : decode cX12_best 27 = .ok (.iconst 1, 1) := by decide +kernel
theorem dX12_best_28 : decode cX12_best 28 = .ok (.iconst 3, 1) := by decide +kernel
theorem dX12_best_29 : decode cX12_best 29 = .ok (.invokestatic 45, 3) := by decide +kernel
theorem dX12_best_32 : decode cX12_best 32 = .ok (.ifCond .ne 6, 3) := by decide +kernel
theorem dX12_best_35 : decode cX12_best 35 = .ok (.bipush (-2), 2) := by decide +kernel
theorem dX12_best_37 : decode cX12_best 37 = .ok (.ireturn, 1) := by decide +kernel
theorem dX12_best_38 : decode cX12_best 38 = .ok (.iload 4, 2) := by decide +kernel
theorem dX12_best_40 : decode cX12_best 40 = .ok (.iload_n 3, 1) := by decide +kernel
theorem dX12_best_41 : decode cX12_best 41 = .ok (.if_icmp .lt 7, 3) := by decide +kernel
theorem dX12_best_44 : decode cX12_best 44 = .ok (.iconst (-1), 1) := by decide +kernel
theorem dX12_best_45 : decode cX12_best 45 = .ok (.goto 16, 3) := by decide +kernel
theorem dX12_best_48 : decode cX12_best 48 = .ok (.aload_n 0, 1) := by decide +kernel
theorem dX12_best_49 : decode cX12_best 49 = .ok (.iload_n 1, 1) := by decide +kernel
theorem dX12_best_50 : decode cX12_best 50 = .ok (.iload_n 2, 1) := by decide +kernel
theorem dX12_best_51 : decode cX12_best 51 = .ok (.iload_n 3, 1) := by decide +kernel
theorem dX12_best_52 : decode cX12_best 52 = .ok (.invokevirtual 240, 3) := by decide +kernel
theorem dX12_best_55 : decode cX12_best 55 = .ok (.iload_n 3, 1) := by decide +kernel
theorem dX12_best_56 : decode cX12_best 56 = .ok (.iload 4, 2) := by decide +kernel
theorem dX12_best_58 : decode cX12_best 58 = .ok (.invokestatic 243, 3) := by decide +kernel
theorem dX12_best_61 : decode cX12_best 61 = .ok (.ireturn, 1) := by decide +kernel
set_option maxRecDepth 20000 in
theorem ggX12_bestOdds_X12_isCell : GoodIn wsX12_bestOdds wsX12_isCell := goodIn_r _ [6, 7, 8, 5, 9] (by decide +kernel) (by decide +kernel)
set_option maxRecDepth 20000 in
theorem gX12_bestOdds_X12_isCell : GoodIn wsX12_bestOdds (va_wsS RX12 149 yX12_isCell wsX12_isCell) := goodIn_app (goodIn_of _ (by decide +kernel)) ggX12_bestOdds_X12_isCell
set_option maxRecDepth 20000 in
theorem ggX12_bestOdds_X12_in : GoodIn wsX12_bestOdds wsX12_in := goodIn_r _ [9] (by decide +kernel) (by decide +kernel)
set_option maxRecDepth 20000 in
theorem gX12_bestOdds_X12_in : GoodIn wsX12_bestOdds (va_wsS RX12 45 yX12_in wsX12_in) := goodIn_app (goodIn_of _ (by decide +kernel)) ggX12_bestOdds_X12_in
set_option maxRecDepth 20000 in
theorem ggX12_bestOdds_X12_bestRow : GoodIn wsX12_bestOdds wsX12_bestRow := goodIn_r _ [13, 14, 2, 15, 16, 17, 5, 18, 19, 20, 21, 22, 23, 24, 25, 26, 27, 28, 29, 30, 31, 32, 33, 34, 35, 36, 37, 38, 39, 40, 41, 42, 43, 44, 45, 46, 47, 48, 49, 50, 51, 52, 53, 54, 55, 7, 8, 9, 56, 57, 58, 59, 66, 67, 68, 69, 70, 71, 72, 73, 74, 75, 76, 77, 78, 79, 80, 81, 82, 83, 84, 85, 86, 87, 88] (by decide +kernel) (by decide +kernel)
set_option maxRecDepth 20000 in
theorem gX12_bestOdds_X12_bestRow : GoodIn wsX12_bestOdds (wsV RX12 240 RX12 yX12_bestRow wsX12_bestRow) := goodIn_app (goodIn_of _ (by decide +kernel)) ggX12_bestOdds_X12_bestRow
set_option maxRecDepth 20000 in
theorem ggX12_bestOdds_X12_twenties : GoodIn wsX12_bestOdds wsX12_twenties := goodIn_r _ [62, 46] (by decide +kernel) (by decide +kernel)
set_option maxRecDepth 20000 in
theorem gX12_bestOdds_X12_twenties : GoodIn wsX12_bestOdds (va_wsS RX12 226 yX12_twenties wsX12_twenties) := goodIn_app (goodIn_of _ (by decide +kernel)) ggX12_bestOdds_X12_twenties
set_option maxRecDepth 20000 in
theorem ggX12_bestOdds_X12_lowest : GoodIn wsX12_bestOdds wsX12_lowest := goodIn_r _ [65] (by decide +kernel) (by decide +kernel)
set_option maxRecDepth 20000 in
theorem gX12_bestOdds_X12_lowest : GoodIn wsX12_bestOdds (va_wsS RX12 229 yX12_lowest wsX12_lowest) := goodIn_app (goodIn_of _ (by decide +kernel)) ggX12_bestOdds_X12_lowest
theorem dX12_bestOdds_0 : decode cX12_bestOdds 0 = .ok (.iload_n 1, 1) := by decide +kernel
theorem dX12_bestOdds_1 : decode cX12_bestOdds 1 = .ok (.invokestatic 149, 3) := by decide +kernel
theorem dX12_bestOdds_4 : decode cX12_bestOdds 4 = .ok (.ifCond .eq 29, 3) := by decide +kernel
theorem dX12_bestOdds_7 : decode cX12_bestOdds 7 = .ok (.iload_n 2, 1) := by decide +kernel
theorem dX12_bestOdds_8 : decode cX12_bestOdds 8 = .ok (.invokestatic 149, 3) := by decide +kernel
theorem dX12_bestOdds_11 : decode cX12_bestOdds 11 = .ok (.ifCond .eq 22, 3) := by decide +kernel
theorem dX12_bestOdds_14 : decode cX12_bestOdds 14 = .ok (.iload_n 3, 1) := by decide +kernel
theorem dX12_bestOdds_15 : decode cX12_bestOdds 15 = .ok (.iconst 1, 1) := by decide +kernel
theorem dX12_bestOdds_16 : decode cX12_bestOdds 16 = .ok (.iconst 3, 1) := by decide +kernel
theorem dX12_bestOdds_17 : decode cX12_bestOdds 17 = .ok (.invokestatic 45, 3) := by decide +kernel
theorem dX12_bestOdds_20 : decode cX12_bestOdds 20 = .ok (.ifCond .eq 13, 3) := by decide +kernel
theorem dX12_bestOdds_23 : decode cX12_bestOdds 23 = .ok (.iload 4, 2) := by decide +kernel
theorem dX12_bestOdds_25 : decode cX12_bestOdds 25 = .ok (.iconst 0, 1) := by decide +kernel
theorem dX12_bestOdds_26 : decode cX12_bestOdds 26 = .ok (.iconst 1, 1) := by decide +kernel
theorem dX12_bestOdds_27 : decode cX12_bestOdds 27 = .ok (.invokestatic 45, 3) := by decide +kernel
theorem dX12_bestOdds_30 : decode cX12_bestOdds 30 = .ok (.ifCond .ne 7, 3) := by decide +kernel
theorem dX12_bestOdds_33 : decode cX12_bestOdds 33 = .ok (.ldc2_w 181, 3) := by decide +kernel
theorem dX12_bestOdds_36 : decode cX12_bestOdds 36 = .ok (.lreturn, 1) := by decide +kernel
theorem dX12_bestOdds_37 : decode cX12_bestOdds 37 = .ok (.aload_n 0, 1) := by decide +kernel
theorem dX12_bestOdds_38 : decode cX12_bestOdds 38 = .ok (.iload_n 1, 1) := by decide +kernel
theorem dX12_bestOdds_39 : decode cX12_bestOdds 39 = .ok (.iload_n 2, 1) := by decide +kernel
theorem dX12_bestOdds_40 : decode cX12_bestOdds 40 = .ok (.iload_n 3, 1) := by decide +kernel
theorem dX12_bestOdds_41 : decode cX12_bestOdds 41 = .ok (.invokevirtual 240, 3) := by decide +kernel
theorem dX12_bestOdds_44 : decode cX12_bestOdds 44 = .ok (.istore 5, 2) := by decide +kernel
theorem dX12_bestOdds_46 : decode cX12_bestOdds 46 = .ok (.iload 5, 2) := by decide +kernel
theorem dX12_bestOdds_48 : decode cX12_bestOdds 48 = .ok (.iconst (-1), 1) := by decide +kernel
theorem dX12_bestOdds_49 : decode cX12_bestOdds 49 = .ok (.if_icmp .ne 9, 3) := by decide +kernel
theorem dX12_bestOdds_52 : decode cX12_bestOdds 52 = .ok (.ldc2_w 181, 3) := by decide +kernel
theorem dX12_bestOdds_55 : decode cX12_bestOdds 55 = .ok (.goto 16, 3) := by decide +kernel
theorem dX12_bestOdds_58 : decode cX12_bestOdds 58 = .ok (.aload_n 0, 1) := by decide +kernel
theorem dX12_bestOdds_59 : decode cX12_bestOdds 59 = .ok (.getfield 236, 3) := by decide +kernel
theorem dX12_bestOdds_62 : decode cX12_bestOdds 62 = .ok (.iload_n 3, 1) := by decide +kernel
theorem dX12_bestOdds_63 : decode cX12_bestOdds 63 = .ok (.invokestatic 226, 3) := by decide +kernel
theorem dX12_bestOdds_66 : decode cX12_bestOdds 66 = .ok (.iload 4, 2) := by decide +kernel
theorem dX12_bestOdds_68 : decode cX12_bestOdds 68 = .ok (.invokestatic 229, 3) := by decide +kernel
theorem dX12_bestOdds_71 : decode cX12_bestOdds 71 = .ok (.lreturn, 1) := by decide +kernel
set_option maxRecDepth 20000 in
theorem ggX12_safe_X12_isCell : GoodIn wsX12_safe wsX12_isCell := goodIn_r _ [4, 5, 6, 3, 7] (by decide +kernel) (by decide +kernel)
set_option maxRecDepth 20000 in
theorem gX12_safe_X12_isCell : GoodIn wsX12_safe (va_wsS RX12 149 yX12_isCell wsX12_isCell) := goodIn_app (goodIn_of _ (by decide +kernel)) ggX12_safe_X12_isCell
set_option maxRecDepth 20000 in
theorem ggX12_safe_X12_in : GoodIn wsX12_safe wsX12_in := goodIn_r _ [7] (by decide +kernel) (by decide +kernel)
set_option maxRecDepth 20000 in
theorem gX12_safe_X12_in : GoodIn wsX12_safe (va_wsS RX12 45 yX12_in wsX12_in) := goodIn_app (goodIn_of _ (by decide +kernel)) ggX12_safe_X12_in
set_option maxRecDepth 20000 in
theorem ggX12_safe_X12_bestRow : GoodIn wsX12_safe wsX12_bestRow := goodIn_r _ [11, 12, 13, 14, 15, 16, 3, 17, 18, 19, 20, 21, 22, 23, 24, 25, 26, 27, 28, 29, 30, 31, 32, 33, 34, 35, 36, 37, 38, 39, 40, 41, 42, 43, 44, 45, 46, 47, 48, 49, 50, 51, 52, 53, 54, 5, 6, 7, 55, 56, 57, 58, 62, 63, 64, 65, 66, 67, 68, 69, 70, 71, 72, 73, 74, 75, 76, 77, 78, 79, 80, 81, 82, 83, 84] (by decide +kernel) (by decide +kernel)
set_option maxRecDepth 20000 in
theorem gX12_safe_X12_bestRow : GoodIn wsX12_safe (wsV RX12 240 RX12 yX12_bestRow wsX12_bestRow) := goodIn_app (goodIn_of _ (by decide +kernel)) ggX12_safe_X12_bestRow
set_option maxRecDepth 20000 in
theorem ggX12_safe_X12_wayOf : GoodIn wsX12_safe wsX12_wayOf := goodIn_r _ [61] (by decide +kernel) (by decide +kernel)
set_option maxRecDepth 20000 in
theorem gX12_safe_X12_wayOf : GoodIn wsX12_safe (va_wsS RX12 243 yX12_wayOf wsX12_wayOf) := goodIn_app (goodIn_of _ (by decide +kernel)) ggX12_safe_X12_wayOf
theorem dX12_safe_0 : decode cX12_safe 0 = .ok (.iload_n 1, 1) := by decide +kernel
theorem dX12_safe_1 : decode cX12_safe 1 = .ok (.invokestatic 149, 3) := by decide +kernel
theorem dX12_safe_4 : decode cX12_safe 4 = .ok (.ifCond .eq 12, 3) := by decide +kernel
theorem dX12_safe_7 : decode cX12_safe 7 = .ok (.iload_n 3, 1) := by decide +kernel
theorem dX12_safe_8 : decode cX12_safe 8 = .ok (.iconst 0, 1) := by decide +kernel
theorem dX12_safe_9 : decode cX12_safe 9 = .ok (.iconst 2, 1) := by decide +kernel
theorem dX12_safe_10 : decode cX12_safe 10 = .ok (.invokestatic 45, 3) := by decide +kernel
theorem dX12_safe_13 : decode cX12_safe 13 = .ok (.ifCond .ne 5, 3) := by decide +kernel
theorem dX12_safe_16 : decode cX12_safe 16 = .ok (.iconst (-1), 1) := by decide +kernel
theorem dX12_safe_17 : decode cX12_safe 17 = .ok (.ireturn, 1) := by decide +kernel
theorem dX12_safe_18 : decode cX12_safe 18 = .ok (.iload_n 2, 1) := by decide +kernel
theorem dX12_safe_19 : decode cX12_safe 19 = .ok (.iconst 1, 1) := by decide +kernel
theorem dX12_safe_20 : decode cX12_safe 20 = .ok (.iconst 3, 1) := by decide +kernel
theorem dX12_safe_21 : decode cX12_safe 21 = .ok (.invokestatic 45, 3) := by decide +kernel
theorem dX12_safe_24 : decode cX12_safe 24 = .ok (.ifCond .ne 6, 3) := by decide +kernel
theorem dX12_safe_27 : decode cX12_safe 27 = .ok (.bipush (-2), 2) := by decide +kernel
theorem dX12_safe_29 : decode cX12_safe 29 = .ok (.ireturn, 1) := by decide +kernel
theorem dX12_safe_30 : decode cX12_safe 30 = .ok (.iload_n 3, 1) := by decide +kernel
theorem dX12_safe_31 : decode cX12_safe 31 = .ok (.iload_n 2, 1) := by decide +kernel
theorem dX12_safe_32 : decode cX12_safe 32 = .ok (.if_icmp .lt 7, 3) := by decide +kernel
theorem dX12_safe_35 : decode cX12_safe 35 = .ok (.iconst (-1), 1) := by decide +kernel
theorem dX12_safe_36 : decode cX12_safe 36 = .ok (.goto 15, 3) := by decide +kernel
theorem dX12_safe_39 : decode cX12_safe 39 = .ok (.aload_n 0, 1) := by decide +kernel
theorem dX12_safe_40 : decode cX12_safe 40 = .ok (.iload_n 1, 1) := by decide +kernel
theorem dX12_safe_41 : decode cX12_safe 41 = .ok (.iconst (-1), 1) := by decide +kernel
theorem dX12_safe_42 : decode cX12_safe 42 = .ok (.iload_n 2, 1) := by decide +kernel
theorem dX12_safe_43 : decode cX12_safe 43 = .ok (.invokevirtual 240, 3) := by decide +kernel
theorem dX12_safe_46 : decode cX12_safe 46 = .ok (.iload_n 2, 1) := by decide +kernel
theorem dX12_safe_47 : decode cX12_safe 47 = .ok (.iload_n 3, 1) := by decide +kernel
theorem dX12_safe_48 : decode cX12_safe 48 = .ok (.invokestatic 243, 3) := by decide +kernel
theorem dX12_safe_51 : decode cX12_safe 51 = .ok (.ireturn, 1) := by decide +kernel
set_option maxRecDepth 20000 in
theorem ggX12_line_X12_isHeap : GoodIn wsX12_line wsX12_isHeap := goodIn_r _ [6, 1, 7, 8, 5, 9, 20, 21, 22, 23, 24, 25, 26, 27, 28, 29, 30, 31, 32, 33, 34, 35, 36, 37, 38, 39, 40, 41, 42] (by decide +kernel) (by decide +kernel)
set_option maxRecDepth 20000 in
theorem gX12_line_X12_isHeap : GoodIn wsX12_line (wsV RX12 164 RX12 yX12_isHeap wsX12_isHeap) := goodIn_app (goodIn_of _ (by decide +kernel)) ggX12_line_X12_isHeap
set_option maxRecDepth 20000 in
theorem ggX12_line_X12_in : GoodIn wsX12_line wsX12_in := goodIn_r _ [9] (by decide +kernel) (by decide +kernel)
set_option maxRecDepth 20000 in
theorem gX12_line_X12_in : GoodIn wsX12_line (va_wsS RX12 45 yX12_in wsX12_in) := goodIn_app (goodIn_of _ (by decide +kernel)) ggX12_line_X12_in
set_option maxRecDepth 20000 in
theorem ggX12_line_X12_sight : GoodIn wsX12_line wsX12_sight := goodIn_r _ [13, 1, 20, 21, 22, 23, 24, 25, 26, 27, 28, 29, 30, 31, 32, 33, 34, 35, 36, 37, 38, 39, 40, 41, 42] (by decide +kernel) (by decide +kernel)
set_option maxRecDepth 20000 in
theorem gX12_line_X12_sight : GoodIn wsX12_line (wsV RX12 140 RX12 yX12_sight wsX12_sight) := goodIn_app (goodIn_of _ (by decide +kernel)) ggX12_line_X12_sight
set_option maxRecDepth 20000 in
theorem ggX12_line_X12_apart : GoodIn wsX12_line wsX12_apart := goodIn_r _ [16, 17, 18, 5, 19] (by decide +kernel) (by decide +kernel)
set_option maxRecDepth 20000 in
theorem gX12_line_X12_apart : GoodIn wsX12_line (va_wsS RX12 170 yX12_apart wsX12_apart) := goodIn_app (goodIn_of _ (by decide +kernel)) ggX12_line_X12_apart
theorem dX12_line_0 : decode cX12_line 0 = .ok (.aload_n 0, 1) := by decide +kernel
theorem dX12_line_1 : decode cX12_line 1 = .ok (.iload_n 1, 1) := by decide +kernel
theorem dX12_line_2 : decode cX12_line 2 = .ok (.invokevirtual 164, 3) := by decide +kernel
theorem dX12_line_5 : decode cX12_line 5 = .ok (.ifCond .ne 5, 3) := by decide +kernel
theorem dX12_line_8 : decode cX12_line 8 = .ok (.iconst (-1), 1) := by decide +kernel
theorem dX12_line_9 : decode cX12_line 9 = .ok (.ireturn, 1) := by decide +kernel
theorem dX12_line_10 : decode cX12_line 10 = .ok (.iload_n 2, 1) := by decide +kernel
theorem dX12_line_11 : decode cX12_line 11 = .ok (.iconst 1, 1) := by decide +kernel
theorem dX12_line_12 : decode cX12_line 12 = .ok (.bipush 9, 2) := by decide +kernel
theorem dX12_line_14 : decode cX12_line 14 = .ok (.invokestatic 45, 3) := by decide +kernel
theorem dX12_line_17 : decode cX12_line 17 = .ok (.ifCond .ne 6, 3) := by decide +kernel
theorem dX12_line_20 : decode cX12_line 20 = .ok (.bipush (-2), 2) := by decide +kernel
theorem dX12_line_22 : decode cX12_line 22 = .ok (.ireturn, 1) := by decide +kernel
theorem dX12_line_23 : decode cX12_line 23 = .ok (.aload_n 0, 1) := by decide +kernel
theorem dX12_line_24 : decode cX12_line 24 = .ok (.invokevirtual 140, 3) := by decide +kernel
theorem dX12_line_27 : decode cX12_line 27 = .ok (.aload_n 0, 1) := by decide +kernel
theorem dX12_line_28 : decode cX12_line 28 = .ok (.getfield 9, 3) := by decide +kernel
theorem dX12_line_31 : decode cX12_line 31 = .ok (.bipush 6, 2) := by decide +kernel
theorem dX12_line_33 : decode cX12_line 33 = .ok (.iaload, 1) := by decide +kernel
theorem dX12_line_34 : decode cX12_line 34 = .ok (.if_icmp .ge 7, 3) := by decide +kernel
theorem dX12_line_37 : decode cX12_line 37 = .ok (.iconst 0, 1) := by decide +kernel
theorem dX12_line_38 : decode cX12_line 38 = .ok (.goto 15, 3) := by decide +kernel
theorem dX12_line_41 : decode cX12_line 41 = .ok (.aload_n 0, 1) := by decide +kernel
theorem dX12_line_42 : decode cX12_line 42 = .ok (.invokevirtual 140, 3) := by decide +kernel
theorem dX12_line_45 : decode cX12_line 45 = .ok (.aload_n 0, 1) := by decide +kernel
theorem dX12_line_46 : decode cX12_line 46 = .ok (.getfield 9, 3) := by decide +kernel
theorem dX12_line_49 : decode cX12_line 49 = .ok (.bipush 6, 2) := by decide +kernel
theorem dX12_line_51 : decode cX12_line 51 = .ok (.iaload, 1) := by decide +kernel
theorem dX12_line_52 : decode cX12_line 52 = .ok (.isub, 1) := by decide +kernel
theorem dX12_line_53 : decode cX12_line 53 = .ok (.istore_n 3, 1) := by decide +kernel
theorem dX12_line_54 : decode cX12_line 54 = .ok (.iconst 0, 1) := by decide +kernel
theorem dX12_line_55 : decode cX12_line 55 = .ok (.istore 4, 2) := by decide +kernel
theorem dX12_line_57 : decode cX12_line 57 = .ok (.iconst 0, 1) := by decide +kernel
theorem dX12_line_58 : decode cX12_line 58 = .ok (.istore 5, 2) := by decide +kernel
theorem dX12_line_60 : decode cX12_line 60 = .ok (.iload 5, 2) := by decide +kernel
theorem dX12_line_62 : decode cX12_line 62 = .ok (.aload_n 0, 1) := by decide +kernel
theorem dX12_line_63 : decode cX12_line 63 = .ok (.getfield 9, 3) := by decide +kernel
theorem dX12_line_66 : decode cX12_line 66 = .ok (.iconst 0, 1) := by decide +kernel
theorem dX12_line_67 : decode cX12_line 67 = .ok (.iaload, 1) := by decide +kernel
theorem dX12_line_68 : decode cX12_line 68 = .ok (.if_icmp .ge 58, 3) := by decide +kernel
theorem dX12_line_71 : decode cX12_line 71 = .ok (.iload 4, 2) := by decide +kernel
theorem dX12_line_73 : decode cX12_line 73 = .ok (.iload 5, 2) := by decide +kernel
theorem dX12_line_75 : decode cX12_line 75 = .ok (.iload_n 1, 1) := by decide +kernel
theorem dX12_line_76 : decode cX12_line 76 = .ok (.if_icmp .eq 40, 3) := by decide +kernel
theorem dX12_line_79 : decode cX12_line 79 = .ok (.aload_n 0, 1) := by decide +kernel
theorem dX12_line_80 : decode cX12_line 80 = .ok (.getfield 9, 3) := by decide +kernel
theorem dX12_line_83 : decode cX12_line 83 = .ok (.bipush 28, 2) := by decide +kernel
theorem dX12_line_85 : decode cX12_line 85 = .ok (.iload 5, 2) := by decide +kernel
theorem dX12_line_87 : decode cX12_line 87 = .ok (.iadd, 1) := by decide +kernel
theorem dX12_line_88 : decode cX12_line 88 = .ok (.iaload, 1) := by decide +kernel
theorem dX12_line_89 : decode cX12_line 89 = .ok (.aload_n 0, 1) := by decide +kernel
theorem dX12_line_90 : decode cX12_line 90 = .ok (.getfield 9, 3) := by decide +kernel
theorem dX12_line_93 : decode cX12_line 93 = .ok (.bipush 28, 2) := by decide +kernel
theorem dX12_line_95 : decode cX12_line 95 = .ok (.iload_n 1, 1) := by decide +kernel
theorem dX12_line_96 : decode cX12_line 96 = .ok (.iadd, 1) := by decide +kernel
theorem dX12_line_97 : decode cX12_line 97 = .ok (.iaload, 1) := by decide +kernel
theorem dX12_line_98 : decode cX12_line 98 = .ok (.invokestatic 170, 3) := by decide +kernel
theorem dX12_line_101 : decode cX12_line 101 = .ok (.iload_n 2, 1) := by decide +kernel
theorem dX12_line_102 : decode cX12_line 102 = .ok (.iconst 1, 1) := by decide +kernel
theorem dX12_line_103 : decode cX12_line 103 = .ok (.isub, 1) := by decide +kernel
theorem dX12_line_104 : decode cX12_line 104 = .ok (.iload_n 3, 1) := by decide +kernel
theorem dX12_line_105 : decode cX12_line 105 = .ok (.imul, 1) := by decide +kernel
theorem dX12_line_106 : decode cX12_line 106 = .ok (.if_icmp .gt 10, 3) := by decide +kernel
theorem dX12_line_109 : decode cX12_line 109 = .ok (.iconst 1, 1) := by decide +kernel
theorem dX12_line_110 : decode cX12_line 110 = .ok (.iload 5, 2) := by decide +kernel
theorem dX12_line_112 : decode cX12_line 112 = .ok (.ishl, 1) := by decide +kernel
theorem dX12_line_113 : decode cX12_line 113 = .ok (.goto 4, 3) := by decide +kernel
theorem dX12_line_116 : decode cX12_line 116 = .ok (.iconst 0, 1) := by decide +kernel
theorem dX12_line_117 : decode cX12_line 117 = .ok (.ior, 1) := by decide +kernel
theorem dX12_line_118 : decode cX12_line 118 = .ok (.istore 4, 2) := by decide +kernel
theorem dX12_line_120 : decode cX12_line 120 = .ok (.iinc 5 1, 3) := by decide +kernel
theorem dX12_line_123 : decode cX12_line 123 = .ok (.goto (-63), 3) := by decide +kernel
theorem dX12_line_126 : decode cX12_line 126 = .ok (.iload 4, 2) := by decide +kernel
theorem dX12_line_128 : decode cX12_line 128 = .ok (.ireturn, 1) := by decide +kernel
set_option maxRecDepth 20000 in
theorem ggX12_next_X12_isHeap : GoodIn wsX12_next wsX12_isHeap := goodIn_r _ [6, 1, 7, 8, 5, 9, 10, 11, 12, 13, 14, 15, 16, 17, 18, 19, 20, 21, 22, 23, 24, 25, 26, 27, 28, 29, 30, 31, 32] (by decide +kernel) (by decide +kernel)
set_option maxRecDepth 20000 in
theorem gX12_next_X12_isHeap : GoodIn wsX12_next (wsV RX12 164 RX12 yX12_isHeap wsX12_isHeap) := goodIn_app (goodIn_of _ (by decide +kernel)) ggX12_next_X12_isHeap
set_option maxRecDepth 20000 in
theorem ggX12_next_X12_in : GoodIn wsX12_next wsX12_in := goodIn_r _ [9] (by decide +kernel) (by decide +kernel)
set_option maxRecDepth 20000 in
theorem gX12_next_X12_in : GoodIn wsX12_next (va_wsS RX12 45 yX12_in wsX12_in) := goodIn_app (goodIn_of _ (by decide +kernel)) ggX12_next_X12_in
theorem dX12_next_0 : decode cX12_next 0 = .ok (.aload_n 0, 1) := by decide +kernel
theorem dX12_next_1 : decode cX12_next 1 = .ok (.iload_n 1, 1) := by decide +kernel
theorem dX12_next_2 : decode cX12_next 2 = .ok (.invokevirtual 164, 3) := by decide +kernel
theorem dX12_next_5 : decode cX12_next 5 = .ok (.ifCond .eq 19, 3) := by decide +kernel
theorem dX12_next_8 : decode cX12_next 8 = .ok (.aload_n 0, 1) := by decide +kernel
theorem dX12_next_9 : decode cX12_next 9 = .ok (.iload_n 2, 1) := by decide +kernel
theorem dX12_next_10 : decode cX12_next 10 = .ok (.invokevirtual 164, 3) := by decide +kernel
theorem dX12_next_13 : decode cX12_next 13 = .ok (.ifCond .eq 11, 3) := by decide +kernel
theorem dX12_next_16 : decode cX12_next 16 = .ok (.aload_n 0, 1) := by decide +kernel
theorem dX12_next_17 : decode cX12_next 17 = .ok (.iload_n 3, 1) := by decide +kernel
theorem dX12_next_18 : decode cX12_next 18 = .ok (.invokevirtual 164, 3) := by decide +kernel
theorem dX12_next_21 : decode cX12_next 21 = .ok (.ifCond .ne 5, 3) := by decide +kernel
theorem dX12_next_24 : decode cX12_next 24 = .ok (.iconst (-1), 1) := by decide +kernel
theorem dX12_next_25 : decode cX12_next 25 = .ok (.ireturn, 1) := by decide +kernel
theorem dX12_next_26 : decode cX12_next 26 = .ok (.aload_n 0, 1) := by decide +kernel
theorem dX12_next_27 : decode cX12_next 27 = .ok (.getfield 9, 3) := by decide +kernel
theorem dX12_next_30 : decode cX12_next 30 = .ok (.bipush 28, 2) := by decide +kernel
theorem dX12_next_32 : decode cX12_next 32 = .ok (.iload_n 1, 1) := by decide +kernel
theorem dX12_next_33 : decode cX12_next 33 = .ok (.iadd, 1) := by decide +kernel
theorem dX12_next_34 : decode cX12_next 34 = .ok (.iaload, 1) := by decide +kernel
theorem dX12_next_35 : decode cX12_next 35 = .ok (.istore 4, 2) := by decide +kernel
theorem dX12_next_37 : decode cX12_next 37 = .ok (.aload_n 0, 1) := by decide +kernel
theorem dX12_next_38 : decode cX12_next 38 = .ok (.getfield 9, 3) := by decide +kernel
theorem dX12_next_41 : decode cX12_next 41 = .ok (.bipush 28, 2) := by decide +kernel
theorem dX12_next_43 : decode cX12_next 43 = .ok (.iload_n 2, 1) := by decide +kernel
theorem dX12_next_44 : decode cX12_next 44 = .ok (.iadd, 1) := by decide +kernel
theorem dX12_next_45 : decode cX12_next 45 = .ok (.iaload, 1) := by decide +kernel
theorem dX12_next_46 : decode cX12_next 46 = .ok (.istore 5, 2) := by decide +kernel
theorem dX12_next_48 : decode cX12_next 48 = .ok (.aload_n 0, 1) := by decide +kernel
theorem dX12_next_49 : decode cX12_next 49 = .ok (.getfield 9, 3) := by decide +kernel
theorem dX12_next_52 : decode cX12_next 52 = .ok (.bipush 28, 2) := by decide +kernel
theorem dX12_next_54 : decode cX12_next 54 = .ok (.iload_n 3, 1) := by decide +kernel
theorem dX12_next_55 : decode cX12_next 55 = .ok (.iadd, 1) := by decide +kernel
theorem dX12_next_56 : decode cX12_next 56 = .ok (.iaload, 1) := by decide +kernel
theorem dX12_next_57 : decode cX12_next 57 = .ok (.istore 6, 2) := by decide +kernel
theorem dX12_next_59 : decode cX12_next 59 = .ok (.iconst 3, 1) := by decide +kernel
theorem dX12_next_60 : decode cX12_next 60 = .ok (.iload 6, 2) := by decide +kernel
theorem dX12_next_62 : decode cX12_next 62 = .ok (.bipush 6, 2) := by decide +kernel
theorem dX12_next_64 : decode cX12_next 64 = .ok (.idiv, 1) := by decide +kernel
theorem dX12_next_65 : decode cX12_next 65 = .ok (.imul, 1) := by decide +kernel
theorem dX12_next_66 : decode cX12_next 66 = .ok (.iconst 3, 1) := by decide +kernel
theorem dX12_next_67 : decode cX12_next 67 = .ok (.iload 5, 2) := by decide +kernel
theorem dX12_next_69 : decode cX12_next 69 = .ok (.bipush 6, 2) := by decide +kernel
theorem dX12_next_71 : decode cX12_next 71 = .ok (.idiv, 1) := by decide +kernel
theorem dX12_next_72 : decode cX12_next 72 = .ok (.imul, 1) := by decide +kernel
theorem dX12_next_73 : decode cX12_next 73 = .ok (.isub, 1) := by decide +kernel
theorem dX12_next_74 : decode cX12_next 74 = .ok (.iload 4, 2) := by decide +kernel
theorem dX12_next_76 : decode cX12_next 76 = .ok (.bipush 6, 2) := by decide +kernel
theorem dX12_next_78 : decode cX12_next 78 = .ok (.idiv, 1) := by decide +kernel
theorem dX12_next_79 : decode cX12_next 79 = .ok (.iadd, 1) := by decide +kernel
theorem dX12_next_80 : decode cX12_next 80 = .ok (.istore 7, 2) := by decide +kernel
theorem dX12_next_82 : decode cX12_next 82 = .ok (.iconst 3, 1) := by decide +kernel
theorem dX12_next_83 : decode cX12_next 83 = .ok (.iload 6, 2) := by decide +kernel
theorem dX12_next_85 : decode cX12_next 85 = .ok (.bipush 6, 2) := by decide +kernel
theorem dX12_next_87 : decode cX12_next 87 = .ok (.irem, 1) := by decide +kernel
theorem dX12_next_88 : decode cX12_next 88 = .ok (.imul, 1) := by decide +kernel
theorem dX12_next_89 : decode cX12_next 89 = .ok (.iconst 3, 1) := by decide +kernel
theorem dX12_next_90 : decode cX12_next 90 = .ok (.iload 5, 2) := by decide +kernel
theorem dX12_next_92 : decode cX12_next 92 = .ok (.bipush 6, 2) := by decide +kernel
theorem dX12_next_94 : decode cX12_next 94 = .ok (.irem, 1) := by decide +kernel
theorem dX12_next_95 : decode cX12_next 95 = .ok (.imul, 1) := by decide +kernel
theorem dX12_next_96 : decode cX12_next 96 = .ok (.isub, 1) := by decide +kernel
theorem dX12_next_97 : decode cX12_next 97 = .ok (.iload 4, 2) := by decide +kernel
theorem dX12_next_99 : decode cX12_next 99 = .ok (.bipush 6, 2) := by decide +kernel
theorem dX12_next_101 : decode cX12_next 101 = .ok (.irem, 1) := by decide +kernel
theorem dX12_next_102 : decode cX12_next 102 = .ok (.iadd, 1) := by decide +kernel
theorem dX12_next_103 : decode cX12_next 103 = .ok (.istore 8, 2) := by decide +kernel
theorem dX12_next_105 : decode cX12_next 105 = .ok (.iload 7, 2) := by decide +kernel
theorem dX12_next_107 : decode cX12_next 107 = .ok (.iconst 0, 1) := by decide +kernel
theorem dX12_next_108 : decode cX12_next 108 = .ok (.iconst 5, 1) := by decide +kernel
theorem dX12_next_109 : decode cX12_next 109 = .ok (.invokestatic 45, 3) := by decide +kernel
theorem dX12_next_112 : decode cX12_next 112 = .ok (.ifCond .eq 24, 3) := by decide +kernel
theorem dX12_next_115 : decode cX12_next 115 = .ok (.iload 8, 2) := by decide +kernel
theorem dX12_next_117 : decode cX12_next 117 = .ok (.iconst 0, 1) := by decide +kernel
theorem dX12_next_118 : decode cX12_next 118 = .ok (.iconst 5, 1) := by decide +kernel
theorem dX12_next_119 : decode cX12_next 119 = .ok (.invokestatic 45, 3) := by decide +kernel
theorem dX12_next_122 : decode cX12_next 122 = .ok (.ifCond .eq 14, 3) := by decide +kernel
theorem dX12_next_125 : decode cX12_next 125 = .ok (.bipush 6, 2) := by decide +kernel
theorem dX12_next_127 : decode cX12_next 127 = .ok (.iload 7, 2) := by decide +kernel
theorem dX12_next_129 : decode cX12_next 129 = .ok (.imul, 1) := by decide +kernel
theorem dX12_next_130 : decode cX12_next 130 = .ok (.iload 8, 2) := by decide +kernel
theorem dX12_next_132 : decode cX12_next 132 = .ok (.iadd, 1) := by decide +kernel
theorem dX12_next_133 : decode cX12_next 133 = .ok (.goto 5, 3) := by decide +kernel
theorem dX12_next_136 : decode cX12_next 136 = .ok (.bipush (-5), 2) := by decide +kernel
theorem dX12_next_138 : decode cX12_next 138 = .ok (.ireturn, 1) := by decide +kernel
set_option maxRecDepth 20000 in
theorem ggX12_book_X12_isHeap : GoodIn wsX12_book wsX12_isHeap := goodIn_r _ [6, 1, 7, 8, 5, 9, 10, 11, 12, 13, 14, 15, 16, 17, 18, 19, 20, 21, 22, 23, 24, 25, 26, 27, 28, 29, 30, 31, 32] (by decide +kernel) (by decide +kernel)
set_option maxRecDepth 20000 in
theorem gX12_book_X12_isHeap : GoodIn wsX12_book (wsV RX12 164 RX12 yX12_isHeap wsX12_isHeap) := goodIn_app (goodIn_of _ (by decide +kernel)) ggX12_book_X12_isHeap
theorem dX12_book_0 : decode cX12_book 0 = .ok (.iload_n 1, 1) := by decide +kernel
theorem dX12_book_1 : decode cX12_book 1 = .ok (.iconst (-1), 1) := by decide +kernel
theorem dX12_book_2 : decode cX12_book 2 = .ok (.if_icmp .ne 12, 3) := by decide +kernel
theorem dX12_book_5 : decode cX12_book 5 = .ok (.aload_n 0, 1) := by decide +kernel
theorem dX12_book_6 : decode cX12_book 6 = .ok (.getfield 9, 3) := by decide +kernel
theorem dX12_book_9 : decode cX12_book 9 = .ok (.iconst 3, 1) := by decide +kernel
theorem dX12_book_10 : decode cX12_book 10 = .ok (.iconst 0, 1) := by decide +kernel
theorem dX12_book_11 : decode cX12_book 11 = .ok (.iastore, 1) := by decide +kernel
theorem dX12_book_12 : decode cX12_book 12 = .ok (.iconst 0, 1) := by decide +kernel
theorem dX12_book_13 : decode cX12_book 13 = .ok (.ireturn, 1) := by decide +kernel
theorem dX12_book_14 : decode cX12_book 14 = .ok (.aload_n 0, 1) := by decide +kernel
theorem dX12_book_15 : decode cX12_book 15 = .ok (.iload_n 1, 1) := by decide +kernel
theorem dX12_book_16 : decode cX12_book 16 = .ok (.invokevirtual 164, 3) := by decide +kernel
theorem dX12_book_19 : decode cX12_book 19 = .ok (.ifCond .ne 5, 3) := by decide +kernel
theorem dX12_book_22 : decode cX12_book 22 = .ok (.iconst (-1), 1) := by decide +kernel
theorem dX12_book_23 : decode cX12_book 23 = .ok (.ireturn, 1) := by decide +kernel
theorem dX12_book_24 : decode cX12_book 24 = .ok (.aload_n 0, 1) := by decide +kernel
theorem dX12_book_25 : decode cX12_book 25 = .ok (.getfield 9, 3) := by decide +kernel
theorem dX12_book_28 : decode cX12_book 28 = .ok (.iconst 3, 1) := by decide +kernel
theorem dX12_book_29 : decode cX12_book 29 = .ok (.iaload, 1) := by decide +kernel
theorem dX12_book_30 : decode cX12_book 30 = .ok (.bipush 12, 2) := by decide +kernel
theorem dX12_book_32 : decode cX12_book 32 = .ok (.if_icmp .ne 6, 3) := by decide +kernel
theorem dX12_book_35 : decode cX12_book 35 = .ok (.bipush (-4), 2) := by decide +kernel
theorem dX12_book_37 : decode cX12_book 37 = .ok (.ireturn, 1) := by decide +kernel
theorem dX12_book_38 : decode cX12_book 38 = .ok (.aload_n 0, 1) := by decide +kernel
theorem dX12_book_39 : decode cX12_book 39 = .ok (.getfield 9, 3) := by decide +kernel
theorem dX12_book_42 : decode cX12_book 42 = .ok (.bipush 79, 2) := by decide +kernel
theorem dX12_book_44 : decode cX12_book 44 = .ok (.aload_n 0, 1) := by decide +kernel
theorem dX12_book_45 : decode cX12_book 45 = .ok (.getfield 9, 3) := by decide +kernel
theorem dX12_book_48 : decode cX12_book 48 = .ok (.iconst 3, 1) := by decide +kernel
theorem dX12_book_49 : decode cX12_book 49 = .ok (.iaload, 1) := by decide +kernel
theorem dX12_book_50 : decode cX12_book 50 = .ok (.iadd, 1) := by decide +kernel
theorem dX12_book_51 : decode cX12_book 51 = .ok (.iload_n 1, 1) := by decide +kernel
theorem dX12_book_52 : decode cX12_book 52 = .ok (.iastore, 1) := by decide +kernel
theorem dX12_book_53 : decode cX12_book 53 = .ok (.aload_n 0, 1) := by decide +kernel
theorem dX12_book_54 : decode cX12_book 54 = .ok (.getfield 9, 3) := by decide +kernel
theorem dX12_book_57 : decode cX12_book 57 = .ok (.iconst 3, 1) := by decide +kernel
theorem dX12_book_58 : decode cX12_book 58 = .ok (.dup2, 1) := by decide +kernel
theorem dX12_book_59 : decode cX12_book 59 = .ok (.iaload, 1) := by decide +kernel
theorem dX12_book_60 : decode cX12_book 60 = .ok (.iconst 1, 1) := by decide +kernel
theorem dX12_book_61 : decode cX12_book 61 = .ok (.iadd, 1) := by decide +kernel
theorem dX12_book_62 : decode cX12_book 62 = .ok (.iastore, 1) := by decide +kernel
theorem dX12_book_63 : decode cX12_book 63 = .ok (.aload_n 0, 1) := by decide +kernel
theorem dX12_book_64 : decode cX12_book 64 = .ok (.getfield 9, 3) := by decide +kernel
theorem dX12_book_67 : decode cX12_book 67 = .ok (.iconst 3, 1) := by decide +kernel
theorem dX12_book_68 : decode cX12_book 68 = .ok (.iaload, 1) := by decide +kernel
theorem dX12_book_69 : decode cX12_book 69 = .ok (.ireturn, 1) := by decide +kernel
set_option maxRecDepth 20000 in
theorem ggX12_looked_X12_doesGo : GoodIn wsX12_looked wsX12_doesGo := goodIn_r _ [6, 1, 7, 8, 9, 5, 10, 11, 12, 13, 14, 15, 16, 17, 18, 19, 20, 21, 22, 23, 24, 25, 26, 27, 28, 29, 30, 31, 32, 33, 34, 35, 36, 37, 38, 39, 40, 41, 42, 43, 44, 45, 46, 47, 48, 49, 50, 51, 52, 53, 54, 55, 56, 57, 58, 59, 60, 61, 62, 63, 64, 65, 66, 67] (by decide +kernel) (by decide +kernel)
set_option maxRecDepth 20000 in
theorem gX12_looked_X12_doesGo : GoodIn wsX12_looked (wsV RX12 186 RX12 yX12_doesGo wsX12_doesGo) := goodIn_app (goodIn_of _ (by decide +kernel)) ggX12_looked_X12_doesGo
theorem dX12_looked_0 : decode cX12_looked 0 = .ok (.iconst 1, 1) := by decide +kernel
theorem dX12_looked_1 : decode cX12_looked 1 = .ok (.istore_n 1, 1) := by decide +kernel
theorem dX12_looked_2 : decode cX12_looked 2 = .ok (.iload_n 1, 1) := by decide +kernel
theorem dX12_looked_3 : decode cX12_looked 3 = .ok (.aload_n 0, 1) := by decide +kernel
theorem dX12_looked_4 : decode cX12_looked 4 = .ok (.getfield 9, 3) := by decide +kernel
theorem dX12_looked_7 : decode cX12_looked 7 = .ok (.iconst 3, 1) := by decide +kernel
theorem dX12_looked_8 : decode cX12_looked 8 = .ok (.iaload, 1) := by decide +kernel
