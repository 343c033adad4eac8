theorem dX11_act_0 : decode cX11_act 0 = .ok (.aload_n 0, 1) := by decide +kernel
theorem dX11_act_1 : decode cX11_act 1 = .ok (.getfield 49, 3) := by decide +kernel
set_option maxRecDepth 20000 in
theorem ggX11_act_Jx4a65c_clear_da8c8 : GoodIn wsX11_act wsJx4a65c_clear_da8c8 := goodIn_r _ [7, 8, 9, 10, 11, 180, 181, 182] (by decide +kernel) (by decide +kernel)
set_option maxRecDepth 20000 in
theorem gX11_act_Jx4a65c_clear_da8c8 : GoodIn wsX11_act (wsV RX11 230 RJx4a65c yJx4a65c_clear_da8c8 wsJx4a65c_clear_da8c8) := goodIn_app (goodIn_of _ (by decide +kernel)) ggX11_act_Jx4a65c_clear_da8c8
theorem dX11_act_4 : decode cX11_act 4 = .ok (.invokevirtual 230, 3) := by decide +kernel
theorem dX11_act_7 : decode cX11_act 7 = .ok (.aload_n 0, 1) := by decide +kernel
theorem dX11_act_8 : decode cX11_act 8 = .ok (.getfield 14, 3) := by decide +kernel
theorem dX11_act_11 : decode cX11_act 11 = .ok (.iload_n 1, 1) := by decide +kernel
set_option maxRecDepth 20000 in
theorem ggX11_act_X8_heapAt : GoodIn wsX11_act wsX8_heapAt := goodIn_r _ [16, 17, 18, 183, 184, 185, 186, 187, 188, 189, 190, 191, 192, 193, 194, 195, 196] (by decide +kernel) (by decide +kernel)
set_option maxRecDepth 20000 in
theorem gX11_act_X8_heapAt : GoodIn wsX11_act (wsV RX11 112 RX8 yX8_heapAt wsX8_heapAt) := goodIn_app (goodIn_of _ (by decide +kernel)) ggX11_act_X8_heapAt
theorem dX11_act_12 : decode cX11_act 12 = .ok (.invokevirtual 112, 3) := by decide +kernel
theorem dX11_act_15 : decode cX11_act 15 = .ok (.astore 4, 2) := by decide +kernel
theorem dX11_act_17 : decode cX11_act 17 = .ok (.aload 4, 2) := by decide +kernel
theorem dX11_act_19 : decode cX11_act 19 = .ok (.ifnonnull 5, 3) := by decide +kernel
theorem dX11_act_24 : decode cX11_act 24 = .ok (.iload_n 2, 1) := by decide +kernel
theorem dX11_act_25 : decode cX11_act 25 = .ok (.tableswitch 60 0 2 #[27, 38, 49], 27) := by decide +kernel
theorem dX11_act_52 : decode cX11_act 52 = .ok (.aload 4, 2) := by decide +kernel
theorem dX11_act_54 : decode cX11_act 54 = .ok (.iload_n 3, 1) := by decide +kernel
theorem dX11_act_55 : decode cX11_act 55 = .ok (.aload_n 0, 1) := by decide +kernel
theorem dX11_act_56 : decode cX11_act 56 = .ok (.getfield 49, 3) := by decide +kernel
set_option maxRecDepth 20000 in
theorem ggX11_act_X3_doSees : GoodIn wsX11_act wsX3_doSees := goodIn_r _ [24, 25, 26, 27, 23, 28, 29, 30, 31, 6, 32, 11, 33, 34, 35, 36, 37, 38, 39, 40, 41, 42, 43, 44, 45, 46, 47, 48, 49, 50, 51, 52, 53, 54, 55, 8, 9, 10, 56, 57, 58, 59, 60, 61, 62, 63, 64, 65, 66, 67, 68, 69, 70, 71, 72, 73, 74, 75, 76, 77, 78, 79, 80, 81, 82, 83, 84, 85, 86, 87, 88, 89, 90, 91, 92, 93, 94, 95, 96, 97, 98, 99, 100, 101, 102, 197, 198, 199, 200, 201, 202, 203, 204, 205, 206, 207, 208, 209, 210, 211, 212, 213, 214, 215, 216, 217, 218, 219, 220, 221, 222, 223, 224, 180, 181, 182, 225] (by decide +kernel) (by decide +kernel)
set_option maxRecDepth 20000 in
theorem gX11_act_X3_doSees_u233X1 : GoodIn wsX11_act (va_wsU RX11 233 RX1 "MistHeaps$Heap" ⟨"MistHeaps$Heap", "doSees", "(ILjava/util/ArrayList;)I"⟩ yX3_doSees wsX3_doSees) := goodIn_app (goodIn_of _ (by decide +kernel)) ggX11_act_X3_doSees
theorem dX11_act_59 : decode cX11_act 59 = .ok (.invokevirtual 233, 3) := by decide +kernel
theorem dX11_act_62 : decode cX11_act 62 = .ok (.ireturn, 1) := by decide +kernel
set_option maxRecDepth 20000 in
theorem gX11_act_X3_doSees : GoodIn wsX11_act (wsV RX11 233 RX3 yX3_doSees wsX3_doSees) := goodIn_app (goodIn_of _ (by decide +kernel)) ggX11_act_X3_doSees
set_option maxRecDepth 20000 in
theorem ggX11_act_X4_doSees : GoodIn wsX11_act wsX4_doSees := goodIn_r _ [109, 110, 20, 111, 22, 23, 24, 25, 26, 27, 28, 29, 30, 31, 6, 32, 11, 33, 34, 35, 36, 37, 38, 39, 40, 41, 42, 43, 44, 45, 46, 47, 48, 49, 50, 51, 52, 53, 54, 55, 8, 9, 10, 56, 57, 58, 59, 60, 61, 62, 63, 64, 65, 66, 67, 68, 69, 70, 71, 72, 73, 74, 75, 76, 77, 78, 79, 80, 81, 82, 83, 84, 85, 86, 87, 88, 89, 90, 91, 92, 93, 94, 95, 96, 97, 98, 99, 100, 101, 102, 197, 198, 199, 200, 201, 202, 203, 204, 205, 206, 207, 208, 209, 210, 211, 212, 213, 214, 215, 216, 217, 218, 219, 220, 221, 222, 223, 224, 180, 181, 182, 225] (by decide +kernel) (by decide +kernel)
set_option maxRecDepth 20000 in
theorem gX11_act_X4_doSees_u233X4 : GoodIn wsX11_act (va_wsO RX11 233 RX4 "MistHeaps$Heap" ⟨"MistHeaps$Heap", "doSees", "(ILjava/util/ArrayList;)I"⟩ yX4_doSees wsX4_doSees) := goodIn_app (goodIn_of _ (by decide +kernel)) ggX11_act_X4_doSees
set_option maxRecDepth 20000 in
theorem gX11_act_X3_doSees_u233X6 : GoodIn wsX11_act (va_wsU RX11 233 RX6 "MistHeaps$Heap" ⟨"MistHeaps$Heap", "doSees", "(ILjava/util/ArrayList;)I"⟩ yX3_doSees wsX3_doSees) := goodIn_app (goodIn_of _ (by decide +kernel)) ggX11_act_X3_doSees
set_option maxRecDepth 20000 in
theorem gX11_act_X3_doSees_u233X7 : GoodIn wsX11_act (va_wsU RX11 233 RX7 "MistHeaps$Heap" ⟨"MistHeaps$Heap", "doSees", "(ILjava/util/ArrayList;)I"⟩ yX3_doSees wsX3_doSees) := goodIn_app (goodIn_of _ (by decide +kernel)) ggX11_act_X3_doSees
set_option maxRecDepth 20000 in
theorem ggX11_act_X9_doSees : GoodIn wsX11_act wsX9_doSees := goodIn_r _ [117, 118, 119, 197, 198, 199, 200, 201, 202, 203, 204, 205, 206, 207, 208, 209, 210, 211, 212, 213, 214, 215, 216, 217, 218, 219, 220, 221, 222, 223, 224] (by decide +kernel) (by decide +kernel)
set_option maxRecDepth 20000 in
theorem gX11_act_X9_doSees_u233X9 : GoodIn wsX11_act (va_wsO RX11 233 RX9 "MistHeaps$Heap" ⟨"MistHeaps$Heap", "doSees", "(ILjava/util/ArrayList;)I"⟩ yX9_doSees wsX9_doSees) := goodIn_app (goodIn_of _ (by decide +kernel)) ggX11_act_X9_doSees
set_option maxRecDepth 20000 in
theorem gX11_act_X4_doSees_u233X10 : GoodIn wsX11_act (va_wsO RX11 233 RX10 "MistHeaps$Heap" ⟨"MistHeaps$Heap", "doSees", "(ILjava/util/ArrayList;)I"⟩ yX4_doSees wsX4_doSees) := goodIn_app (goodIn_of _ (by decide +kernel)) ggX11_act_X4_doSees
theorem dX11_act_63 : decode cX11_act 63 = .ok (.aload 4, 2) := by decide +kernel
theorem dX11_act_65 : decode cX11_act 65 = .ok (.iload_n 3, 1) := by decide +kernel
theorem dX11_act_66 : decode cX11_act 66 = .ok (.aload_n 0, 1) := by decide +kernel
theorem dX11_act_67 : decode cX11_act 67 = .ok (.getfield 49, 3) := by decide +kernel
set_option maxRecDepth 20000 in
theorem ggX11_act_X3_doGoes : GoodIn wsX11_act wsX3_doGoes := goodIn_r _ [125, 126, 26, 27, 23, 28, 29, 30, 31, 6, 32, 11, 33, 34, 35, 36, 37, 38, 39, 40, 41, 42, 43, 44, 45, 46, 47, 48, 49, 50, 51, 52, 53, 54, 55, 8, 9, 10, 56, 57, 58, 59, 60, 61, 62, 63, 64, 65, 66, 67, 68, 69, 70, 71, 72, 73, 74, 75, 76, 77, 78, 79, 80, 81, 82, 83, 84, 85, 86, 87, 88, 89, 90, 91, 92, 93, 94, 95, 96, 97, 98, 99, 100, 101, 102, 127, 20, 21, 22, 24, 25, 128, 104, 105, 106, 107, 108, 109, 110, 111, 112, 113, 114, 115, 116, 117, 118, 119, 120, 197, 198, 199, 200, 201, 202, 203, 204, 205, 206, 207, 208, 209, 210, 211, 212, 213, 214, 215, 216, 217, 218, 219, 220, 221, 222, 223, 224, 180, 181, 182, 225] (by decide +kernel) (by decide +kernel)
set_option maxRecDepth 20000 in
theorem gX11_act_X3_doGoes_u237X1 : GoodIn wsX11_act (va_wsU RX11 237 RX1 "MistHeaps$Heap" ⟨"MistHeaps$Heap", "doGoes", "(ILjava/util/ArrayList;)I"⟩ yX3_doGoes wsX3_doGoes) := goodIn_app (goodIn_of _ (by decide +kernel)) ggX11_act_X3_doGoes
theorem dX11_act_70 : decode cX11_act 70 = .ok (.invokevirtual 237, 3) := by decide +kernel
theorem dX11_act_73 : decode cX11_act 73 = .ok (.ireturn, 1) := by decide +kernel
set_option maxRecDepth 20000 in
theorem gX11_act_X3_doGoes : GoodIn wsX11_act (wsV RX11 237 RX3 yX3_doGoes wsX3_doGoes) := goodIn_app (goodIn_of _ (by decide +kernel)) ggX11_act_X3_doGoes
set_option maxRecDepth 20000 in
theorem gX11_act_X3_doGoes_u237X4 : GoodIn wsX11_act (va_wsU RX11 237 RX4 "MistHeaps$Heap" ⟨"MistHeaps$Heap", "doGoes", "(ILjava/util/ArrayList;)I"⟩ yX3_doGoes wsX3_doGoes) := goodIn_app (goodIn_of _ (by decide +kernel)) ggX11_act_X3_doGoes
set_option maxRecDepth 20000 in
theorem ggX11_act_X6_doGoes : GoodIn wsX11_act wsX6_doGoes := goodIn_r _ [136, 137, 122, 138, 124, 23, 125, 126, 26, 27, 28, 29, 30, 31, 6, 32, 11, 33, 34, 35, 36, 37, 38, 39, 40, 41, 42, 43, 44, 45, 46, 47, 48, 49, 50, 51, 52, 53, 54, 55, 8, 9, 10, 56, 57, 58, 59, 60, 61, 62, 63, 64, 65, 66, 67, 68, 69, 70, 71, 72, 73, 74, 75, 76, 77, 78, 79, 80, 81, 82, 83, 84, 85, 86, 87, 88, 89, 90, 91, 92, 93, 94, 95, 96, 97, 98, 99, 100, 101, 102, 127, 20, 21, 22, 24, 25, 128, 104, 105, 106, 107, 108, 109, 110, 111, 112, 113, 114, 115, 116, 117, 118, 119, 120, 197, 198, 199, 200, 201, 202, 203, 204, 205, 206, 207, 208, 209, 210, 211, 212, 213, 214, 215, 216, 217, 218, 219, 220, 221, 222, 223, 224, 180, 181, 182, 225] (by decide +kernel) (by decide +kernel)
set_option maxRecDepth 20000 in
theorem gX11_act_X6_doGoes_u237X6 : GoodIn wsX11_act (va_wsO RX11 237 RX6 "MistHeaps$Heap" ⟨"MistHeaps$Heap", "doGoes", "(ILjava/util/ArrayList;)I"⟩ yX6_doGoes wsX6_doGoes) := goodIn_app (goodIn_of _ (by decide +kernel)) ggX11_act_X6_doGoes
set_option maxRecDepth 20000 in
theorem ggX11_act_X7_doGoes : GoodIn wsX11_act wsX7_doGoes := goodIn_r _ [142, 143, 144, 197, 198, 199, 200, 201, 202, 203, 204, 205, 206, 207, 208, 209, 210, 211, 212, 213, 214, 215, 216, 217, 218, 219, 220, 221, 222, 223, 224] (by decide +kernel) (by decide +kernel)
set_option maxRecDepth 20000 in
theorem gX11_act_X7_doGoes_u237X7 : GoodIn wsX11_act (va_wsO RX11 237 RX7 "MistHeaps$Heap" ⟨"MistHeaps$Heap", "doGoes", "(ILjava/util/ArrayList;)I"⟩ yX7_doGoes wsX7_doGoes) := goodIn_app (goodIn_of _ (by decide +kernel)) ggX11_act_X7_doGoes
set_option maxRecDepth 20000 in
theorem gX11_act_X6_doGoes_u237X9 : GoodIn wsX11_act (va_wsO RX11 237 RX9 "MistHeaps$Heap" ⟨"MistHeaps$Heap", "doGoes", "(ILjava/util/ArrayList;)I"⟩ yX6_doGoes wsX6_doGoes) := goodIn_app (goodIn_of _ (by decide +kernel)) ggX11_act_X6_doGoes
set_option maxRecDepth 20000 in
theorem gX11_act_X3_doGoes_u237X10 : GoodIn wsX11_act (va_wsU RX11 237 RX10 "MistHeaps$Heap" ⟨"MistHeaps$Heap", "doGoes", "(ILjava/util/ArrayList;)I"⟩ yX3_doGoes wsX3_doGoes) := goodIn_app (goodIn_of _ (by decide +kernel)) ggX11_act_X3_doGoes
theorem dX11_act_74 : decode cX11_act 74 = .ok (.aload 4, 2) := by decide +kernel
theorem dX11_act_76 : decode cX11_act 76 = .ok (.iload_n 3, 1) := by decide +kernel
theorem dX11_act_77 : decode cX11_act 77 = .ok (.aload_n 0, 1) := by decide +kernel
theorem dX11_act_78 : decode cX11_act 78 = .ok (.getfield 49, 3) := by decide +kernel
set_option maxRecDepth 20000 in
theorem ggX11_act_X1_doLooks : GoodIn wsX11_act wsX1_doLooks := goodIn_r _ [153, 154, 148, 155, 156, 23, 157, 26, 27, 28, 29, 30, 31, 6, 32, 11, 33, 34, 35, 36, 37, 38, 39, 40, 41, 42, 43, 44, 45, 46, 47, 48, 49, 50, 51, 52, 53, 54, 55, 8, 9, 10, 56, 57, 58, 59, 60, 61, 62, 63, 64, 65, 66, 67, 68, 69, 70, 71, 72, 73, 74, 75, 76, 77, 78, 79, 80, 81, 82, 83, 84, 85, 86, 87, 88, 89, 90, 91, 92, 93, 94, 95, 96, 97, 98, 99, 100, 101, 102, 158, 122, 123, 124, 125, 126, 127, 20, 21, 22, 24, 25, 128, 104, 105, 106, 107, 108, 109, 110, 111, 112, 113, 114, 115, 116, 117, 118, 119, 120, 159, 130, 131, 132, 133, 134, 135, 136, 137, 138, 139, 140, 141, 142, 143, 144, 145, 146, 180, 181, 182, 225, 197, 198, 199, 200, 201, 202, 203, 204, 205, 206, 207, 208, 209, 210, 211, 212, 213, 214, 215, 216, 217, 218, 219, 220, 221, 222, 223, 224] (by decide +kernel) (by decide +kernel)
set_option maxRecDepth 20000 in
theorem gX11_act_X1_doLooks_u240X1 : GoodIn wsX11_act (va_wsO RX11 240 RX1 "MistHeaps$Heap" ⟨"MistHeaps$Heap", "doLooks", "(ILjava/util/ArrayList;)I"⟩ yX1_doLooks wsX1_doLooks) := goodIn_app (goodIn_of _ (by decide +kernel)) ggX11_act_X1_doLooks
theorem dX11_act_81 : decode cX11_act 81 = .ok (.invokevirtual 240, 3) := by decide +kernel
theorem dX11_act_84 : decode cX11_act 84 = .ok (.ireturn, 1) := by decide +kernel
set_option maxRecDepth 20000 in
theorem ggX11_act_X3_doLooks : GoodIn wsX11_act wsX3_doLooks := goodIn_r _ [157, 26, 27, 23, 28, 29, 30, 31, 6, 32, 11, 33, 34, 35, 36, 37, 38, 39, 40, 41, 42, 43, 44, 45, 46, 47, 48, 49, 50, 51, 52, 53, 54, 55, 8, 9, 10, 56, 57, 58, 59, 60, 61, 62, 63, 64, 65, 66, 67, 68, 69, 70, 71, 72, 73, 74, 75, 76, 77, 78, 79, 80, 81, 82, 83, 84, 85, 86, 87, 88, 89, 90, 91, 92, 93, 94, 95, 96, 97, 98, 99, 100, 101, 102, 158, 122, 123, 124, 125, 126, 127, 20, 21, 22, 24, 25, 128, 104, 105, 106, 107, 108, 109, 110, 111, 112, 113, 114, 115, 116, 117, 118, 119, 120, 159, 130, 131, 132, 133, 134, 135, 136, 137, 138, 139, 140, 141, 142, 143, 144, 145, 146, 180, 181, 182, 225, 197, 198, 199, 200, 201, 202, 203, 204, 205, 206, 207, 208, 209, 210, 211, 212, 213, 214, 215, 216, 217, 218, 219, 220, 221, 222, 223, 224] (by decide +kernel) (by decide +kernel)
set_option maxRecDepth 20000 in
theorem gX11_act_X3_doLooks : GoodIn wsX11_act (wsV RX11 240 RX3 yX3_doLooks wsX3_doLooks) := goodIn_app (goodIn_of _ (by decide +kernel)) ggX11_act_X3_doLooks
set_option maxRecDepth 20000 in
theorem gX11_act_X3_doLooks_u240X4 : GoodIn wsX11_act (va_wsU RX11 240 RX4 "MistHeaps$Heap" ⟨"MistHeaps$Heap", "doLooks", "(ILjava/util/ArrayList;)I"⟩ yX3_doLooks wsX3_doLooks) := goodIn_app (goodIn_of _ (by decide +kernel)) ggX11_act_X3_doLooks
set_option maxRecDepth 20000 in
theorem gX11_act_X3_doLooks_u240X6 : GoodIn wsX11_act (va_wsU RX11 240 RX6 "MistHeaps$Heap" ⟨"MistHeaps$Heap", "doLooks", "(ILjava/util/ArrayList;)I"⟩ yX3_doLooks wsX3_doLooks) := goodIn_app (goodIn_of _ (by decide +kernel)) ggX11_act_X3_doLooks
set_option maxRecDepth 20000 in
theorem gX11_act_X1_doLooks_u240X7 : GoodIn wsX11_act (va_wsO RX11 240 RX7 "MistHeaps$Heap" ⟨"MistHeaps$Heap", "doLooks", "(ILjava/util/ArrayList;)I"⟩ yX1_doLooks wsX1_doLooks) := goodIn_app (goodIn_of _ (by decide +kernel)) ggX11_act_X1_doLooks
set_option maxRecDepth 20000 in
theorem gX11_act_X3_doLooks_u240X9 : GoodIn wsX11_act (va_wsU RX11 240 RX9 "MistHeaps$Heap" ⟨"MistHeaps$Heap", "doLooks", "(ILjava/util/ArrayList;)I"⟩ yX3_doLooks wsX3_doLooks) := goodIn_app (goodIn_of _ (by decide +kernel)) ggX11_act_X3_doLooks
set_option maxRecDepth 20000 in
theorem ggX11_act_X10_doLooks : GoodIn wsX11_act wsX10_doLooks := goodIn_r _ [169, 170, 171, 172, 107, 108, 109, 110, 20, 111, 22, 23, 24, 25, 26, 27, 28, 29, 30, 31, 6, 32, 11, 33, 34, 35, 36, 37, 38, 39, 40, 41, 42, 43, 44, 45, 46, 47, 48, 49, 50, 51, 52, 53, 54, 55, 8, 9, 10, 56, 57, 58, 59, 60, 61, 62, 63, 64, 65, 66, 67, 68, 69, 70, 71, 72, 73, 74, 75, 76, 77, 78, 79, 80, 81, 82, 83, 84, 85, 86, 87, 88, 89, 90, 91, 92, 93, 94, 95, 96, 97, 98, 99, 100, 101, 102, 197, 198, 199, 200, 201, 202, 203, 204, 205, 206, 207, 208, 209, 210, 211, 212, 213, 214, 215, 216, 217, 218, 219, 220, 221, 222, 223, 224, 180, 181, 182, 225] (by decide +kernel) (by decide +kernel)
set_option maxRecDepth 20000 in
theorem gX11_act_X10_doLooks_u240X10 : GoodIn wsX11_act (va_wsO RX11 240 RX10 "MistHeaps$Heap" ⟨"MistHeaps$Heap", "doLooks", "(ILjava/util/ArrayList;)I"⟩ yX10_doLooks wsX10_doLooks) := goodIn_app (goodIn_of _ (by decide +kernel)) ggX11_act_X10_doLooks
theorem dX11_act_85 : decode cX11_act 85 = .ok (.iconst 0, 1) := by decide +kernel
theorem dX11_act_86 : decode cX11_act 86 = .ok (.ireturn, 1) := by decide +kernel
theorem dX11_act_22 : decode cX11_act 22 = .ok (.iconst 0, 1) := by decide +kernel
theorem dX11_act_23 : decode cX11_act 23 = .ok (.ireturn, 1) := by decide +kernel
theorem kc_xAct1_0 : ∀ w ∈ wsX110, w ∈ wsX11_act := by decide +kernel
theorem kc_xAct1_1 : (.fieldLink RX11 49 "MistHeaps" "bodies" "Ljava/util/ArrayList;" : Cond) ∈ wsX11_act := by decide +kernel
theorem kc_xAct1_2 : (.fieldLink RX11 14 "MistHeaps" "scene" "LMistHeaps$Scene;" : Cond) ∈ wsX11_act := by decide +kernel
theorem kc_xAct1_3 : (.code yX3_doSees cX3_doSees 3 (some .int) : Cond) ∈ wsX11_act := by decide +kernel
theorem kc_xAct1_4 : (.code yX3_doGoes cX3_doGoes 3 (some .int) : Cond) ∈ wsX11_act := by decide +kernel
theorem kc_xAct1_5 : (.code yX3_doLooks cX3_doLooks 3 (some .int) : Cond) ∈ wsX11_act := by decide +kernel
set_option maxHeartbeats 4000000 in
set_option maxRecDepth 100000 in
theorem c_xAct1 (l : Launch) (dC : Nat → ClassId) (dI : Nat → Nat → Nat) (ad : Nat → Nat) (cB bS : Nat)    (h0 : Nat) (sc : Nat) (kp : Nat) (bl : Nat) (go : Nat) (ch : Nat) (bo : Nat) (aTp : Nat) (aHl : Nat) (aHs : Nat) (aWk : Nat) (aBk : Nat) (aFc : Nat) (aEl : Nat) (ts : Nat) (nh : Nat) (n : Nat) (wz : Nat) (bz : Nat) (mi : Int32) (sn : Int32) (ik : Int32) (x : Int32) (y : Int32) (z : Int32) (ed : Int64) (cHs : ClassId) (cEl : ClassId) (yk : Nat → Int32) (yv : Nat → Int32) (yc : Nat → Int32) (fHs : Nat → Option Nat) (fEl : Nat → Option Nat) (yi : Nat → Nat) (ya : Nat → Nat) (sz_ : Nat) (mdc : Int32) (sz : Nat) (zhs : ∀ k0, k0 < n → fHs k0 = some (ya k0)) (hn8 : n ≤ 8) (hsz : sz_ ≤ 10) : Met l yX11_act wsX11_act ({ frames := 8, cells := 1, slots := 10, locals := 176 } : Room) (va_Pc [.ref h0, .int x, .int y, .int z] (fun U => U.heap.size = sz ∧ va_P (dC, dI) vwCl [(h0, .inr (13, [.ref sc, .ref kp, .int ik, .ref bl, .ref go, .ref ch, .ref bo])), (sc, .inr (10, [.ref aTp, .int (nI ts), .ref aHl, .int (nI nh), .long ed, .int mi, .int sn, .ref aHs, .int (nI n), .ref aWk, .int (nI wz), .ref aBk, .int (nI bz), .ref aFc])), (aHs, .inl (cHs, 8, .inr (.inr (.inr (.inr fHs))))), (bo, .inr (1, [.int mdc, .ref aEl, .int (nI sz_)])), (aEl, .inl (cEl, 10, .inr (.inr (.inr (.inr fEl)))))] U.heap ∧ va_K (dC, dI) vwCl [(cHs, .object "MistHeaps$Heap"), (cEl, .object "java/lang/Object")] U ∧ va_D (fun _ => True) [(h0, .inr (13, [.ref sc, .ref kp, .int ik, .ref bl, .ref go, .ref ch, .ref bo])), (sc, .inr (10, [.ref aTp, .int (nI ts), .ref aHl, .int (nI nh), .long ed, .int mi, .int sn, .ref aHs, .int (nI n), .ref aWk, .int (nI wz), .ref aBk, .int (nI bz), .ref aFc])), (aHs, .inl (cHs, 8, .inr (.inr (.inr (.inr fHs))))), (bo, .inr (1, [.int mdc, .ref aEl, .int (nI sz_)])), (aEl, .inl (cEl, 10, .inr (.inr (.inr (.inr fEl)))))] ∧ Gi ad cB bS (va_A [(h0, .inr (13, [.ref sc, .ref kp, .int ik, .ref bl, .ref go, .ref ch, .ref bo])), (sc, .inr (10, [.ref aTp, .int (nI ts), .ref aHl, .int (nI nh), .long ed, .int mi, .int sn, .ref aHs, .int (nI n), .ref aWk, .int (nI wz), .ref aBk, .int (nI bz), .ref aFc])), (aHs, .inl (cHs, 8, .inr (.inr (.inr (.inr fHs))))), (bo, .inr (1, [.int mdc, .ref aEl, .int (nI sz_)])), (aEl, .inl (cEl, 10, .inr (.inr (.inr (.inr fEl)))))] sz) U ∧ Gb (va_A [(h0, .inr (13, [.ref sc, .ref kp, .int ik, .ref bl, .ref go, .ref ch, .ref bo])), (sc, .inr (10, [.ref aTp, .int (nI ts), .ref aHl, .int (nI nh), .long ed, .int mi, .int sn, .ref aHs, .int (nI n), .ref aWk, .int (nI wz), .ref aBk, .int (nI bz), .ref aFc])), (aHs, .inl (cHs, 8, .inr (.inr (.inr (.inr fHs))))), (bo, .inr (1, [.int mdc, .ref aEl, .int (nI sz_)])), (aEl, .inl (cEl, 10, .inr (.inr (.inr (.inr fEl)))))] sz) U ∧ Gw (va_A [(h0, .inr (13, [.ref sc, .ref kp, .int ik, .ref bl, .ref go, .ref ch, .ref bo])), (sc, .inr (10, [.ref aTp, .int (nI ts), .ref aHl, .int (nI nh), .long ed, .int mi, .int sn, .ref aHs, .int (nI n), .ref aWk, .int (nI wz), .ref aBk, .int (nI bz), .ref aFc])), (aHs, .inl (cHs, 8, .inr (.inr (.inr (.inr fHs))))), (bo, .inr (1, [.int mdc, .ref aEl, .int (nI sz_)])), (aEl, .inl (cEl, 10, .inr (.inr (.inr (.inr fEl)))))] sz) U ∧ Hs dC dI n yi ya yk yv yc (va_A [(h0, .inr (13, [.ref sc, .ref kp, .int ik, .ref bl, .ref go, .ref ch, .ref bo])), (sc, .inr (10, [.ref aTp, .int (nI ts), .ref aHl, .int (nI nh), .long ed, .int mi, .int sn, .ref aHs, .int (nI n), .ref aWk, .int (nI wz), .ref aBk, .int (nI bz), .ref aFc])), (aHs, .inl (cHs, 8, .inr (.inr (.inr (.inr fHs))))), (bo, .inr (1, [.int mdc, .ref aEl, .int (nI sz_)])), (aEl, .inl (cEl, 10, .inr (.inr (.inr (.inr fEl)))))] sz) U)) (va_Qi (fun (r : Int32) (u : (Int32) × (Nat) × (Nat → Option Nat)) => match u with | (mdc9, sz_9, fEl9) => sz_9 ≤ 10 ∧ okL ad fEl9 sz_9) (fun (u : (Int32) × (Nat) × (Nat → Option Nat)) (t : State) => match u with | (mdc9, sz_9, fEl9) => va_P (dC, dI) vwCl [(h0, .inr (13, [.ref sc, .ref kp, .int ik, .ref bl, .ref go, .ref ch, .ref bo])), (sc, .inr (10, [.ref aTp, .int (nI ts), .ref aHl, .int (nI nh), .long ed, .int mi, .int sn, .ref aHs, .int (nI n), .ref aWk, .int (nI wz), .ref aBk, .int (nI bz), .ref aFc])), (aHs, .inl (cHs, 8, .inr (.inr (.inr (.inr fHs))))), (bo, .inr (1, [.int mdc9, .ref aEl, .int (nI sz_9)])), (aEl, .inl (cEl, 10, .inr (.inr (.inr (.inr fEl9)))))] t.heap ∧ va_K (dC, dI) vwCl [(cHs, .object "MistHeaps$Heap"), (cEl, .object "java/lang/Object")] t ∧ va_D (va_A [(h0, .inr (13, [.ref sc, .ref kp, .int ik, .ref bl, .ref go, .ref ch, .ref bo])), (sc, .inr (10, [.ref aTp, .int (nI ts), .ref aHl, .int (nI nh), .long ed, .int mi, .int sn, .ref aHs, .int (nI n), .ref aWk, .int (nI wz), .ref aBk, .int (nI bz), .ref aFc])), (aHs, .inl (cHs, 8, .inr (.inr (.inr (.inr fHs))))), (bo, .inr (1, [.int mdc, .ref aEl, .int (nI sz_)])), (aEl, .inl (cEl, 10, .inr (.inr (.inr (.inr fEl)))))] sz) [(h0, .inr (13, [.ref sc, .ref kp, .int ik, .ref bl, .ref go, .ref ch, .ref bo])), (sc, .inr (10, [.ref aTp, .int (nI ts), .ref aHl, .int (nI nh), .long ed, .int mi, .int sn, .ref aHs, .int (nI n), .ref aWk, .int (nI wz), .ref aBk, .int (nI bz), .ref aFc])), (aHs, .inl (cHs, 8, .inr (.inr (.inr (.inr fHs))))), (bo, .inr (1, [.int mdc9, .ref aEl, .int (nI sz_9)])), (aEl, .inl (cEl, 10, .inr (.inr (.inr (.inr fEl9)))))]) (va_A [(h0, .inr (13, [.ref sc, .ref kp, .int ik, .ref bl, .ref go, .ref ch, .ref bo])), (sc, .inr (10, [.ref aTp, .int (nI ts), .ref aHl, .int (nI nh), .long ed, .int mi, .int sn, .ref aHs, .int (nI n), .ref aWk, .int (nI wz), .ref aBk, .int (nI bz), .ref aFc])), (aHs, .inl (cHs, 8, .inr (.inr (.inr (.inr fHs))))), (bo, .inr (1, [.int mdc, .ref aEl, .int (nI sz_)])), (aEl, .inl (cEl, 10, .inr (.inr (.inr (.inr fEl)))))] sz)) 1 10 (va_A [(h0, .inr (13, [.ref sc, .ref kp, .int ik, .ref bl, .ref go, .ref ch, .ref bo])), (sc, .inr (10, [.ref aTp, .int (nI ts), .ref aHl, .int (nI nh), .long ed, .int mi, .int sn, .ref aHs, .int (nI n), .ref aWk, .int (nI wz), .ref aBk, .int (nI bz), .ref aFc])), (aHs, .inl (cHs, 8, .inr (.inr (.inr (.inr fHs))))), (bo, .inr (1, [.int mdc, .ref aEl, .int (nI sz_)])), (aEl, .inl (cEl, 10, .inr (.inr (.inr (.inr fEl)))))] sz) := by
  refine met_ofQ (cc := cX11_act) (maxL := 5) (ret := (some .int)) (by decide) rfl ?_
  intro p e s m args below meth c s₁ Q B hml hv hQ
  obtain ⟨rfl, hsz, hP, hK, hD0, hI_, hB_, hW_, hH_⟩ := hv
  have hx := B.exec
  have hb := B.bytes
  have hr := B.returns
  have hts := atoms_spec (ws := wsX11_act) B.pre
  have hown : s.vm.findClass RX11 = some m.cls := findClass_of_methodNamed B.named
  have hlocks := B.notSynchronized
  subst hsz
  have hD := hD0.self (sz := s.heap.size)
  generalize hAe : va_A [(h0, .inr (13, [.ref sc, .ref kp, .int ik, .ref bl, .ref go, .ref ch, .ref bo])), (sc, .inr (10, [.ref aTp, .int (nI ts), .ref aHl, .int (nI nh), .long ed, .int mi, .int sn, .ref aHs, .int (nI n), .ref aWk, .int (nI wz), .ref aBk, .int (nI bz), .ref aFc])), (aHs, .inl (cHs, 8, .inr (.inr (.inr (.inr fHs))))), (bo, .inr (1, [.int mdc, .ref aEl, .int (nI sz_)])), (aEl, .inl (cEl, 10, .inr (.inr (.inr (.inr fEl)))))] s.heap.size = A at hD hQ hI_ hB_ hW_ hH_ ⊢
  have hA : ∀ q : Nat, s.heap.size ≤ q → A q := fun q h => by rw [← hAe]; exact Or.inr h
  have hS : va_S A s.heap s.heap [] := va_S.rf
  have hl := lv_entry [.ref h0, .int x, .int y, .int z] (n := 5) (Nat.le_of_ble_eq_true rfl)
  rw [lg_entry_eq]
  generalize (lg_sl [.ref h0, .int x, .int y, .int z] ++ List.replicate (5 - (lg_sl [.ref h0, .int x, .int y, .int z]).length) Slot.unset).toArray = ls at hl ⊢
  generalize hag : ([.ref h0, .int x, .int y, .int z] : List Value).toArray = args at hts hQ ⊢
  have hl : lv_has ls 5 [(0, .ref h0), (1, .int x), (2, .int y), (3, .int z)] := hl
  obtain ⟨H, hH⟩ : ∃ H : Heap, H = s.heap := ⟨_, rfl⟩
  rw [← hH] at hP
  rw [← hH]
  have hS : va_S A s.heap H [] := by rw [hH]; exact hS
  obtain ⟨locs, hlo⟩ : ∃ L : List Loc, L = [] := ⟨_, rfl⟩
  rw [← hlo] at hS
  rw [← hlo]
  clear hH hlo
  refine lv_aload_n hx hb dX11_act_0 rfl (lv_at hl 0 rfl) ?_
  refine va_get (D := (dC, dI)) (ci := 13) (v := .ref bo) (C := RX11) (T := TX11) (N := 7) hx hb hts kc_xAct1_0 hown hK hP 0 rfl rfl 6 (by decide) (hts (.fieldLink RX11 49 "MistHeaps" "bodies" "Ljava/util/ArrayList;") kc_xAct1_1) (fun _ h9 => h9) rfl dX11_act_1 ?_
  have hPc := hP.sub (ws' := [(bo, .inr (1, [.int mdc, .ref aEl, .int (nI sz_)])), (aEl, .inl (cEl, 10, .inr (.inr (.inr (.inr fEl)))))]) [3, 4] rfl
  have hDc := hD.sub (ws' := [(bo, .inr (1, [.int mdc, .ref aEl, .int (nI sz_)])), (aEl, .inl (cEl, 10, .inr (.inr (.inr (.inr fEl)))))]) [3, 4] (by decide) rfl
  have hKc := hK.sub (tys' := [(cEl, .object "java/lang/Object")]) [1] rfl
  have hFc := va_free (wc := [(bo, .inr (1, [.int mdc, .ref aEl, .int (nI sz_)])), (aEl, .inl (cEl, 10, .inr (.inr (.inr (.inr fEl)))))]) hD hS hA [3, 4] rfl
  refine va_callv (va_runV (As := []) (rest := []) ⟨hx, hb, hml, hown, hts⟩ (c_lclear1 l dC dI bo aEl cEl fEl sz_ mdc H.size (hsz)) (cwV 0 hts gX11_act_Jx4a65c_clear_da8c8 rfl rfl rfl (by decide +kernel) ⟨Nat.le_of_ble_eq_true rfl, Nat.le_of_ble_eq_true rfl⟩) ⟨fun a U g mk q => by obtain ⟨q0, q1, qP, qK, qD⟩ := q; exact ⟨q0, q1, qP, va_K.moved (u := U) (U := U.calling g mk a) (Vm.Alike.refl U.vm) qK, qD⟩, va_recv hK hP (ci := 1) (q0 := 3) rfl rfl, fun U hU hW => ⟨rfl, by rw [hU], by rw [hU]; exact hPc, va_K.moved hW.alike hKc, hDc.weaken (fun _ _ _ _ => trivial)⟩⟩ rfl rfl hl.1 rfl (lv_room (Nat.le_of_ble_eq_true rfl)) dX11_act_4 ⟨Nat.le_of_ble_eq_true rfl, Nat.le_of_ble_eq_true rfl⟩) hS (fun q _ h => hFc q h) hFc (fun u tC H1 locs htC hvm hw_2 hB hz1 hk1 hS => ?_)
  obtain ⟨mdc9_3, sz_9_4, fEl9_5⟩ := u
  try dsimp only at hw_2 hB
  obtain ⟨hP1, hK1, hD1⟩ := hB
  rw [htC] at hP1
  have hK1 := va_K.moved hvm.symm hK1
  obtain ⟨hP, hD⟩ := va_join (wr := [(h0, .inr (13, [.ref sc, .ref kp, .int ik, .ref bl, .ref go, .ref ch, .ref bo])), (sc, .inr (10, [.ref aTp, .int (nI ts), .ref aHl, .int (nI nh), .long ed, .int mi, .int sn, .ref aHs, .int (nI n), .ref aWk, .int (nI wz), .ref aBk, .int (nI bz), .ref aFc])), (aHs, .inl (cHs, 8, .inr (.inr (.inr (.inr fHs)))))]) (w1 := [(bo, .inr (1, [.int mdc9_3, .ref aEl, .int (nI sz_9_4)])), (aEl, .inl (cEl, 10, .inr (.inr (.inr (.inr fEl9_5)))))]) hP hD [3, 4] [0, 1, 2] rfl rfl (by decide) (by decide) hk1 hFc hP1 hD1
  have hK := (hK.sub (tys' := [(cHs, .object "MistHeaps$Heap")]) [0] rfl).app hK1
  generalize H1 = H at hP hS ⊢
  have hP : va_P (dC, dI) vwCl [(h0, .inr (13, [.ref sc, .ref kp, .int ik, .ref bl, .ref go, .ref ch, .ref bo])), (sc, .inr (10, [.ref aTp, .int (nI ts), .ref aHl, .int (nI nh), .long ed, .int mi, .int sn, .ref aHs, .int (nI n), .ref aWk, .int (nI wz), .ref aBk, .int (nI bz), .ref aFc])), (aHs, .inl (cHs, 8, .inr (.inr (.inr (.inr fHs))))), (bo, .inr (1, [.int mdc9_3, .ref aEl, .int (nI sz_9_4)])), (aEl, .inl (cEl, 10, .inr (.inr (.inr (.inr fEl9_5)))))] H := hP
  have hD : va_D A [(h0, .inr (13, [.ref sc, .ref kp, .int ik, .ref bl, .ref go, .ref ch, .ref bo])), (sc, .inr (10, [.ref aTp, .int (nI ts), .ref aHl, .int (nI nh), .long ed, .int mi, .int sn, .ref aHs, .int (nI n), .ref aWk, .int (nI wz), .ref aBk, .int (nI bz), .ref aFc])), (aHs, .inl (cHs, 8, .inr (.inr (.inr (.inr fHs))))), (bo, .inr (1, [.int mdc9_3, .ref aEl, .int (nI sz_9_4)])), (aEl, .inl (cEl, 10, .inr (.inr (.inr (.inr fEl9_5)))))] := hD
  have hK : va_K (dC, dI) vwCl [(cHs, .object "MistHeaps$Heap"), (cEl, .object "java/lang/Object")] s := hK
  obtain rfl := (hw_2).symm
  refine lv_aload_n hx hb dX11_act_7 rfl (lv_at hl 0 rfl) ?_
  refine va_get (D := (dC, dI)) (ci := 13) (v := .ref sc) (C := RX11) (T := TX11) (N := 7) hx hb hts kc_xAct1_0 hown hK hP 0 rfl rfl 0 (by decide) (hts (.fieldLink RX11 14 "MistHeaps" "scene" "LMistHeaps$Scene;") kc_xAct1_2) (fun _ h9 => h9) rfl dX11_act_8 ?_
  refine lv_iload_n hx hb dX11_act_11 rfl (lv_at hl 1 rfl) ?_
  have hPc := hP.sub (ws' := [(sc, .inr (10, [.ref aTp, .int (nI ts), .ref aHl, .int (nI nh), .long ed, .int mi, .int sn, .ref aHs, .int (nI n), .ref aWk, .int (nI wz), .ref aBk, .int (nI bz), .ref aFc])), (aHs, .inl (cHs, 8, .inr (.inr (.inr (.inr fHs)))))]) [1, 2] rfl
  have hKc := hK.sub (tys' := [(cHs, .object "MistHeaps$Heap")]) [0] rfl
  refine va_csq (va_runV (As := [.int x]) (rest := []) ⟨hx, hb, hml, hown, hts⟩ (c_heapAt l dC dI sc aTp aHl aHs aWk aBk aFc ts nh n wz bz mi sn x ed cHs fHs ya (zhs) (hn8)) (cwV 1 hts gX11_act_X8_heapAt rfl rfl rfl (by decide +kernel) ⟨Nat.le_of_ble_eq_true rfl, Nat.le_of_ble_eq_true rfl⟩) ⟨fun a U g mk q => by obtain ⟨q0, qP, qK⟩ := q; exact ⟨q0, qP, va_K.moved (u := U) (U := U.calling g mk a) (Vm.Alike.refl U.vm) qK⟩, va_recv hK hP (ci := 10) (q0 := 1) rfl rfl, fun U hU hW => ⟨rfl, by rw [hU]; exact hPc, va_K.moved hW.alike hKc⟩⟩ rfl rfl hl.1 rfl (lv_room (Nat.le_of_ble_eq_true rfl)) dX11_act_12 ⟨Nat.le_of_ble_eq_true rfl, Nat.le_of_ble_eq_true rfl⟩).run (fun r_6 hw_7 => ?_)
  rcases hw_7 with ⟨j_8, hj_9, rfl, rfl⟩ | ⟨rfl, h_11⟩
  · skip
    refine qq_as (v := .ref (ya j_8)) rfl ?_
    refine lv_astore (lv' := [(4, .ref (ya j_8)), (0, .ref h0), (1, .int (nI j_8)), (2, .int y), (3, .int z)]) hx hb dX11_act_15 hl (by decide) rfl (fun ls hl => ?_)
    refine lv_aload hx hb dX11_act_17 (lv_at hl 0 rfl) ?_
    refine lv_ifnonnull (tgt := 24) hx hb dX11_act_19 (by decide) ?_
    refine lv_iload_n hx hb dX11_act_24 rfl (lv_at hl 3 rfl) ?_
    by_cases c_12_0 : y = 0
    · skip
      refine lv_tableIn (tgt := 52) hx hb dX11_act_25 (by rw [c_12_0]; decide) (by rw [c_12_0]; decide) (by rw [c_12_0]; rfl) (by decide) ?_
      refine lv_aload hx hb dX11_act_52 (lv_at hl 0 rfl) ?_
      refine lv_iload_n hx hb dX11_act_54 rfl (lv_at hl 4 rfl) ?_
      refine lv_aload_n hx hb dX11_act_55 rfl (lv_at hl 1 rfl) ?_
      refine va_get (D := (dC, dI)) (ci := 13) (v := .ref bo) (C := RX11) (T := TX11) (N := 7) hx hb hts kc_xAct1_0 hown hK hP 0 rfl rfl 6 (by decide) (hts (.fieldLink RX11 49 "MistHeaps" "bodies" "Ljava/util/ArrayList;") kc_xAct1_1) (fun _ h9 => h9) rfl dX11_act_56 ?_
      rcases (show yi j_8 = 3 ∨ yi j_8 = 5 ∨ yi j_8 = 6 ∨ yi j_8 = 8 ∨ yi j_8 = 9 ∨ yi j_8 = 11 ∨ yi j_8 = 12 from (hH_ j_8 (by omega)).1) with e_13 | e_13 | e_13 | e_13 | e_13 | e_13 | e_13
      · skip
        have hY : Fz dC dI [((ya j_8), .inr (3, [.int (yk j_8), .int (nI j_8), .int (yv j_8), .int (yc j_8)]))] [] A s := by have h9 := (hH_ j_8 (by omega)).2; rw [hpE, e_13] at h9; exact h9
        have hPc := hP.sub (ws' := [(bo, .inr (1, [.int mdc9_3, .ref aEl, .int (nI 0)])), (aEl, .inl (cEl, 10, .inr (.inr (.inr (.inr fEl9_5)))))]) [3, 4] rfl
        have hDc := hD.sub (ws' := [(bo, .inr (1, [.int mdc9_3, .ref aEl, .int (nI 0)])), (aEl, .inl (cEl, 10, .inr (.inr (.inr (.inr fEl9_5)))))]) [3, 4] (by decide) rfl
        have hKc := hK.sub (tys' := [(cEl, .object "java/lang/Object")]) [1] rfl
        have hFc := va_free (wc := [(bo, .inr (1, [.int mdc9_3, .ref aEl, .int (nI 0)])), (aEl, .inl (cEl, 10, .inr (.inr (.inr (.inr fEl9_5)))))]) hD hS hA [3, 4] rfl
        refine va_calli (va_runU (As := [.int z, .ref bo]) (rest := []) ⟨hx, hb, hml, hown, hts⟩ (c_X3_doSees_X1_1 l dC dI ad cB bS    bo aEl j_8 (yk j_8) (yv j_8) (yc j_8) z cEl fEl9_5 (ya j_8) 0 mdc9_3 H.size (by omega) ((fun k0 h0 => absurd h0 (Nat.not_lt_zero k0)))) (va_cwU 2 hts gX11_act_X3_doSees_u233X1 rfl rfl rfl rfl (by decide +kernel) ⟨Nat.le_of_ble_eq_true rfl, Nat.le_of_ble_eq_true rfl⟩) ⟨fun a U g mk q => by obtain ⟨q0, q1, qP, qK, qD, qhI_, qhB_, qhW_, qhZ⟩ := q; exact ⟨q0, q1, qP, va_K.moved (u := U) (U := U.calling g mk a) (Vm.Alike.refl U.vm) qK, qD, qhI_.same rfl rfl, qhB_.same rfl rfl, qhW_.same rfl rfl, qhZ.same rfl rfl⟩, va_recv hY.2.1 (hY.P hS) (ci := 3) (q0 := 0) rfl rfl, fun U hU hW => ⟨rfl, by rw [hU], by rw [hU]; exact hPc, va_K.moved hW.alike hKc, hDc.weaken (fun _ _ _ _ => trivial), hI_.call hS hU hW (fun q h => hFc q h), hB_.call hS hU hW (fun q h => hFc q h), hW_.call hS hU hW (fun q h => hFc q h), hY.call hS hU hW (fun q h => hFc q h)⟩⟩ rfl rfl hl.1 rfl (lv_room (Nat.le_of_ble_eq_true rfl)) dX11_act_59 ⟨Nat.le_of_ble_eq_true rfl, Nat.le_of_ble_eq_true rfl⟩) hS (fun q _ h => hFc q h) hFc (fun r_14 u tC H1 locs htC hvm hw_15 hB hz1 hk1 hS => ?_)
        obtain ⟨mdc9_16, sz_9_17, fEl9_18⟩ := u
        try dsimp only at hw_15 hB
        obtain ⟨hP1, hK1, hD1⟩ := hB
        rw [htC] at hP1
        have hK1 := va_K.moved hvm.symm hK1
        obtain ⟨hP, hD⟩ := va_join (wr := [(h0, .inr (13, [.ref sc, .ref kp, .int ik, .ref bl, .ref go, .ref ch, .ref bo])), (sc, .inr (10, [.ref aTp, .int (nI ts), .ref aHl, .int (nI nh), .long ed, .int mi, .int sn, .ref aHs, .int (nI n), .ref aWk, .int (nI wz), .ref aBk, .int (nI bz), .ref aFc])), (aHs, .inl (cHs, 8, .inr (.inr (.inr (.inr fHs)))))]) (w1 := [(bo, .inr (1, [.int mdc9_16, .ref aEl, .int (nI sz_9_17)])), (aEl, .inl (cEl, 10, .inr (.inr (.inr (.inr fEl9_18)))))]) hP hD [3, 4] [0, 1, 2] rfl rfl (by decide) (by decide) hk1 hFc hP1 hD1
        have hK := (hK.sub (tys' := [(cHs, .object "MistHeaps$Heap")]) [0] rfl).app hK1
        generalize H1 = H at hP hS ⊢
        have hP : va_P (dC, dI) vwCl [(h0, .inr (13, [.ref sc, .ref kp, .int ik, .ref bl, .ref go, .ref ch, .ref bo])), (sc, .inr (10, [.ref aTp, .int (nI ts), .ref aHl, .int (nI nh), .long ed, .int mi, .int sn, .ref aHs, .int (nI n), .ref aWk, .int (nI wz), .ref aBk, .int (nI bz), .ref aFc])), (aHs, .inl (cHs, 8, .inr (.inr (.inr (.inr fHs))))), (bo, .inr (1, [.int mdc9_16, .ref aEl, .int (nI sz_9_17)])), (aEl, .inl (cEl, 10, .inr (.inr (.inr (.inr fEl9_18)))))] H := hP
        have hD : va_D A [(h0, .inr (13, [.ref sc, .ref kp, .int ik, .ref bl, .ref go, .ref ch, .ref bo])), (sc, .inr (10, [.ref aTp, .int (nI ts), .ref aHl, .int (nI nh), .long ed, .int mi, .int sn, .ref aHs, .int (nI n), .ref aWk, .int (nI wz), .ref aBk, .int (nI bz), .ref aFc])), (aHs, .inl (cHs, 8, .inr (.inr (.inr (.inr fHs))))), (bo, .inr (1, [.int mdc9_16, .ref aEl, .int (nI sz_9_17)])), (aEl, .inl (cEl, 10, .inr (.inr (.inr (.inr fEl9_18)))))] := hD
        have hK : va_K (dC, dI) vwCl [(cHs, .object "MistHeaps$Heap"), (cEl, .object "java/lang/Object")] s := hK
        obtain ⟨h_19, hL_20⟩ := hw_15
        rw [hQ]
        have hP9 := hP.sub (ws' := [(h0, .inr (13, [.ref sc, .ref kp, .int ik, .ref bl, .ref go, .ref ch, .ref bo])), (sc, .inr (10, [.ref aTp, .int (nI ts), .ref aHl, .int (nI nh), .long ed, .int mi, .int sn, .ref aHs, .int (nI n), .ref aWk, .int (nI wz), .ref aBk, .int (nI bz), .ref aFc])), (aHs, .inl (cHs, 8, .inr (.inr (.inr (.inr fHs))))), (bo, .inr (1, [.int mdc9_16, .ref aEl, .int (nI sz_9_17)])), (aEl, .inl (cEl, 10, .inr (.inr (.inr (.inr fEl9_18)))))]) [0, 1, 2, 3, 4] rfl
        have hD9 := hD.sub (ws' := [(h0, .inr (13, [.ref sc, .ref kp, .int ik, .ref bl, .ref go, .ref ch, .ref bo])), (sc, .inr (10, [.ref aTp, .int (nI ts), .ref aHl, .int (nI nh), .long ed, .int mi, .int sn, .ref aHs, .int (nI n), .ref aWk, .int (nI wz), .ref aBk, .int (nI bz), .ref aFc])), (aHs, .inl (cHs, 8, .inr (.inr (.inr (.inr fHs))))), (bo, .inr (1, [.int mdc9_16, .ref aEl, .int (nI sz_9_17)])), (aEl, .inl (cEl, 10, .inr (.inr (.inr (.inr fEl9_18)))))]) [0, 1, 2, 3, 4] (by decide) rfl
        have hK9 := hK.sub (tys' := [(cHs, .object "MistHeaps$Heap"), (cEl, .object "java/lang/Object")]) [0, 1] rfl
        refine W.widen (k := 1) (n := 10) (by omega) (by omega) ?_
        exact W.iret (v := r_14) hx hb hr (fun tQ htQ hWQ => ⟨⟨r_14, (mdc9_16, sz_9_17, fEl9_18), rfl, ⟨by omega, hL_20⟩, by rw [htQ]; exact hP9, va_K.moved hWQ.alike hK9, hD9⟩, hS.F htQ⟩) hS.2.2 dX11_act_62
      · skip
        have hY : Fz dC dI [((ya j_8), .inr (5, [.int (yk j_8), .int (nI j_8), .int (yv j_8), .int (yc j_8)]))] [] A s := by have h9 := (hH_ j_8 (by omega)).2; rw [hpE, e_13] at h9; exact h9
        have hPc := hP.sub (ws' := [(bo, .inr (1, [.int mdc9_3, .ref aEl, .int (nI 0)])), (aEl, .inl (cEl, 10, .inr (.inr (.inr (.inr fEl9_5)))))]) [3, 4] rfl
        have hDc := hD.sub (ws' := [(bo, .inr (1, [.int mdc9_3, .ref aEl, .int (nI 0)])), (aEl, .inl (cEl, 10, .inr (.inr (.inr (.inr fEl9_5)))))]) [3, 4] (by decide) rfl
        have hKc := hK.sub (tys' := [(cEl, .object "java/lang/Object")]) [1] rfl
        have hFc := va_free (wc := [(bo, .inr (1, [.int mdc9_3, .ref aEl, .int (nI 0)])), (aEl, .inl (cEl, 10, .inr (.inr (.inr (.inr fEl9_5)))))]) hD hS hA [3, 4] rfl
        refine va_calli (va_runV (As := [.int z, .ref bo]) (rest := []) ⟨hx, hb, hml, hown, hts⟩ (c_X3_doSees_X3_1 l dC dI ad cB bS    bo aEl j_8 (yk j_8) (yv j_8) (yc j_8) z cEl fEl9_5 (ya j_8) 0 mdc9_3 H.size (by omega) ((fun k0 h0 => absurd h0 (Nat.not_lt_zero k0)))) (cwV 2 hts gX11_act_X3_doSees rfl rfl rfl (by decide +kernel) ⟨Nat.le_of_ble_eq_true rfl, Nat.le_of_ble_eq_true rfl⟩) ⟨fun a U g mk q => by obtain ⟨q0, q1, qP, qK, qD, qhI_, qhB_, qhW_, qhZ⟩ := q; exact ⟨q0, q1, qP, va_K.moved (u := U) (U := U.calling g mk a) (Vm.Alike.refl U.vm) qK, qD, qhI_.same rfl rfl, qhB_.same rfl rfl, qhW_.same rfl rfl, qhZ.same rfl rfl⟩, va_recv hY.2.1 (hY.P hS) (ci := 5) (q0 := 0) rfl rfl, fun U hU hW => ⟨rfl, by rw [hU], by rw [hU]; exact hPc, va_K.moved hW.alike hKc, hDc.weaken (fun _ _ _ _ => trivial), hI_.call hS hU hW (fun q h => hFc q h), hB_.call hS hU hW (fun q h => hFc q h), hW_.call hS hU hW (fun q h => hFc q h), hY.call hS hU hW (fun q h => hFc q h)⟩⟩ rfl rfl hl.1 rfl (lv_room (Nat.le_of_ble_eq_true rfl)) dX11_act_59 ⟨Nat.le_of_ble_eq_true rfl, Nat.le_of_ble_eq_true rfl⟩) hS (fun q _ h => hFc q h) hFc (fun r_21 u tC H1 locs htC hvm hw_22 hB hz1 hk1 hS => ?_)
        obtain ⟨mdc9_23, sz_9_24, fEl9_25⟩ := u
        try dsimp only at hw_22 hB
        obtain ⟨hP1, hK1, hD1⟩ := hB
        rw [htC] at hP1
        have hK1 := va_K.moved hvm.symm hK1
        obtain ⟨hP, hD⟩ := va_join (wr := [(h0, .inr (13, [.ref sc, .ref kp, .int ik, .ref bl, .ref go, .ref ch, .ref bo])), (sc, .inr (10, [.ref aTp, .int (nI ts), .ref aHl, .int (nI nh), .long ed, .int mi, .int sn, .ref aHs, .int (nI n), .ref aWk, .int (nI wz), .ref aBk, .int (nI bz), .ref aFc])), (aHs, .inl (cHs, 8, .inr (.inr (.inr (.inr fHs)))))]) (w1 := [(bo, .inr (1, [.int mdc9_23, .ref aEl, .int (nI sz_9_24)])), (aEl, .inl (cEl, 10, .inr (.inr (.inr (.inr fEl9_25)))))]) hP hD [3, 4] [0, 1, 2] rfl rfl (by decide) (by decide) hk1 hFc hP1 hD1
        have hK := (hK.sub (tys' := [(cHs, .object "MistHeaps$Heap")]) [0] rfl).app hK1
        generalize H1 = H at hP hS ⊢
        have hP : va_P (dC, dI) vwCl [(h0, .inr (13, [.ref sc, .ref kp, .int ik, .ref bl, .ref go, .ref ch, .ref bo])), (sc, .inr (10, [.ref aTp, .int (nI ts), .ref aHl, .int (nI nh), .long ed, .int mi, .int sn, .ref aHs, .int (nI n), .ref aWk, .int (nI wz), .ref aBk, .int (nI bz), .ref aFc])), (aHs, .inl (cHs, 8, .inr (.inr (.inr (.inr fHs))))), (bo, .inr (1, [.int mdc9_23, .ref aEl, .int (nI sz_9_24)])), (aEl, .inl (cEl, 10, .inr (.inr (.inr (.inr fEl9_25)))))] H := hP
        have hD : va_D A [(h0, .inr (13, [.ref sc, .ref kp, .int ik, .ref bl, .ref go, .ref ch, .ref bo])), (sc, .inr (10, [.ref aTp, .int (nI ts), .ref aHl, .int (nI nh), .long ed, .int mi, .int sn, .ref aHs, .int (nI n), .ref aWk, .int (nI wz), .ref aBk, .int (nI bz), .ref aFc])), (aHs, .inl (cHs, 8, .inr (.inr (.inr (.inr fHs))))), (bo, .inr (1, [.int mdc9_23, .ref aEl, .int (nI sz_9_24)])), (aEl, .inl (cEl, 10, .inr (.inr (.inr (.inr fEl9_25)))))] := hD
        have hK : va_K (dC, dI) vwCl [(cHs, .object "MistHeaps$Heap"), (cEl, .object "java/lang/Object")] s := hK
        obtain ⟨h_26, hL_27⟩ := hw_22
        rw [hQ]
        have hP9 := hP.sub (ws' := [(h0, .inr (13, [.ref sc, .ref kp, .int ik, .ref bl, .ref go, .ref ch, .ref bo])), (sc, .inr (10, [.ref aTp, .int (nI ts), .ref aHl, .int (nI nh), .long ed, .int mi, .int sn, .ref aHs, .int (nI n), .ref aWk, .int (nI wz), .ref aBk, .int (nI bz), .ref aFc])), (aHs, .inl (cHs, 8, .inr (.inr (.inr (.inr fHs))))), (bo, .inr (1, [.int mdc9_23, .ref aEl, .int (nI sz_9_24)])), (aEl, .inl (cEl, 10, .inr (.inr (.inr (.inr fEl9_25)))))]) [0, 1, 2, 3, 4] rfl
        have hD9 := hD.sub (ws' := [(h0, .inr (13, [.ref sc, .ref kp, .int ik, .ref bl, .ref go, .ref ch, .ref bo])), (sc, .inr (10, [.ref aTp, .int (nI ts), .ref aHl, .int (nI nh), .long ed, .int mi, .int sn, .ref aHs, .int (nI n), .ref aWk, .int (nI wz), .ref aBk, .int (nI bz), .ref aFc])), (aHs, .inl (cHs, 8, .inr (.inr (.inr (.inr fHs))))), (bo, .inr (1, [.int mdc9_23, .ref aEl, .int (nI sz_9_24)])), (aEl, .inl (cEl, 10, .inr (.inr (.inr (.inr fEl9_25)))))]) [0, 1, 2, 3, 4] (by decide) rfl
        have hK9 := hK.sub (tys' := [(cHs, .object "MistHeaps$Heap"), (cEl, .object "java/lang/Object")]) [0, 1] rfl
        refine W.widen (k := 1) (n := 10) (by omega) (by omega) ?_
        exact W.iret (v := r_21) hx hb hr (fun tQ htQ hWQ => ⟨⟨r_21, (mdc9_23, sz_9_24, fEl9_25), rfl, ⟨by omega, hL_27⟩, by rw [htQ]; exact hP9, va_K.moved hWQ.alike hK9, hD9⟩, hS.F htQ⟩) hS.2.2 dX11_act_62
      · skip
        have hY : Fz dC dI [((ya j_8), .inr (6, [.int (yk j_8), .int (nI j_8), .int (yv j_8), .int (yc j_8)]))] [] A s := by have h9 := (hH_ j_8 (by omega)).2; rw [hpE, e_13] at h9; exact h9
        have hPc := hP.sub (ws' := [(bo, .inr (1, [.int mdc9_3, .ref aEl, .int (nI 0)])), (aEl, .inl (cEl, 10, .inr (.inr (.inr (.inr fEl9_5)))))]) [3, 4] rfl
        have hDc := hD.sub (ws' := [(bo, .inr (1, [.int mdc9_3, .ref aEl, .int (nI 0)])), (aEl, .inl (cEl, 10, .inr (.inr (.inr (.inr fEl9_5)))))]) [3, 4] (by decide) rfl
        have hKc := hK.sub (tys' := [(cEl, .object "java/lang/Object")]) [1] rfl
        have hFc := va_free (wc := [(bo, .inr (1, [.int mdc9_3, .ref aEl, .int (nI 0)])), (aEl, .inl (cEl, 10, .inr (.inr (.inr (.inr fEl9_5)))))]) hD hS hA [3, 4] rfl
        refine va_calli (va_runU (As := [.int z, .ref bo]) (rest := []) ⟨hx, hb, hml, hown, hts⟩ (c_X4_doSees_X4_1 l dC dI ad cB bS    bo aEl j_8 (yk j_8) (yv j_8) (yc j_8) z cEl fEl9_5 (ya j_8) 0 mdc9_3 H.size (by omega) ((fun k0 h0 => absurd h0 (Nat.not_lt_zero k0)))) (va_cwO 2 hts gX11_act_X4_doSees_u233X4 rfl rfl rfl kc_xAct1_3 (by decide +kernel) ⟨Nat.le_of_ble_eq_true rfl, Nat.le_of_ble_eq_true rfl⟩) ⟨fun a U g mk q => by obtain ⟨q0, q1, qP, qK, qD, qhI_, qhB_, qhW_, qhZ⟩ := q; exact ⟨q0, q1, qP, va_K.moved (u := U) (U := U.calling g mk a) (Vm.Alike.refl U.vm) qK, qD, qhI_.same rfl rfl, qhB_.same rfl rfl, qhW_.same rfl rfl, qhZ.same rfl rfl⟩, va_recv hY.2.1 (hY.P hS) (ci := 6) (q0 := 0) rfl rfl, fun U hU hW => ⟨rfl, by rw [hU], by rw [hU]; exact hPc, va_K.moved hW.alike hKc, hDc.weaken (fun _ _ _ _ => trivial), hI_.call hS hU hW (fun q h => hFc q h), hB_.call hS hU hW (fun q h => hFc q h), hW_.call hS hU hW (fun q h => hFc q h), hY.call hS hU hW (fun q h => hFc q h)⟩⟩ rfl rfl hl.1 rfl (lv_room (Nat.le_of_ble_eq_true rfl)) dX11_act_59 ⟨Nat.le_of_ble_eq_true rfl, Nat.le_of_ble_eq_true rfl⟩) hS (fun q _ h => hFc q h) hFc (fun r_28 u tC H1 locs htC hvm hw_29 hB hz1 hk1 hS => ?_)
        obtain ⟨mdc9_30, sz_9_31, fEl9_32⟩ := u
        try dsimp only at hw_29 hB
        obtain ⟨hP1, hK1, hD1⟩ := hB
        rw [htC] at hP1
        have hK1 := va_K.moved hvm.symm hK1
        obtain ⟨hP, hD⟩ := va_join (wr := [(h0, .inr (13, [.ref sc, .ref kp, .int ik, .ref bl, .ref go, .ref ch, .ref bo])), (sc, .inr (10, [.ref aTp, .int (nI ts), .ref aHl, .int (nI nh), .long ed, .int mi, .int sn, .ref aHs, .int (nI n), .ref aWk, .int (nI wz), .ref aBk, .int (nI bz), .ref aFc])), (aHs, .inl (cHs, 8, .inr (.inr (.inr (.inr fHs)))))]) (w1 := [(bo, .inr (1, [.int mdc9_30, .ref aEl, .int (nI sz_9_31)])), (aEl, .inl (cEl, 10, .inr (.inr (.inr (.inr fEl9_32)))))]) hP hD [3, 4] [0, 1, 2] rfl rfl (by decide) (by decide) hk1 hFc hP1 hD1
        have hK := (hK.sub (tys' := [(cHs, .object "MistHeaps$Heap")]) [0] rfl).app hK1
        generalize H1 = H at hP hS ⊢
        have hP : va_P (dC, dI) vwCl [(h0, .inr (13, [.ref sc, .ref kp, .int ik, .ref bl, .ref go, .ref ch, .ref bo])), (sc, .inr (10, [.ref aTp, .int (nI ts), .ref aHl, .int (nI nh), .long ed, .int mi, .int sn, .ref aHs, .int (nI n), .ref aWk, .int (nI wz), .ref aBk, .int (nI bz), .ref aFc])), (aHs, .inl (cHs, 8, .inr (.inr (.inr (.inr fHs))))), (bo, .inr (1, [.int mdc9_30, .ref aEl, .int (nI sz_9_31)])), (aEl, .inl (cEl, 10, .inr (.inr (.inr (.inr fEl9_32)))))] H := hP
        have hD : va_D A [(h0, .inr (13, [.ref sc, .ref kp, .int ik, .ref bl, .ref go, .ref ch, .ref bo])), (sc, .inr (10, [.ref aTp, .int (nI ts), .ref aHl, .int (nI nh), .long ed, .int mi, .int sn, .ref aHs, .int (nI n), .ref aWk, .int (nI wz), .ref aBk, .int (nI bz), .ref aFc])), (aHs, .inl (cHs, 8, .inr (.inr (.inr (.inr fHs))))), (bo, .inr (1, [.int mdc9_30, .ref aEl, .int (nI sz_9_31)])), (aEl, .inl (cEl, 10, .inr (.inr (.inr (.inr fEl9_32)))))] := hD
        have hK : va_K (dC, dI) vwCl [(cHs, .object "MistHeaps$Heap"), (cEl, .object "java/lang/Object")] s := hK
        obtain ⟨h_33, hL_34⟩ := hw_29
        rw [hQ]
        have hP9 := hP.sub (ws' := [(h0, .inr (13, [.ref sc, .ref kp, .int ik, .ref bl, .ref go, .ref ch, .ref bo])), (sc, .inr (10, [.ref aTp, .int (nI ts), .ref aHl, .int (nI nh), .long ed, .int mi, .int sn, .ref aHs, .int (nI n), .ref aWk, .int (nI wz), .ref aBk, .int (nI bz), .ref aFc])), (aHs, .inl (cHs, 8, .inr (.inr (.inr (.inr fHs))))), (bo, .inr (1, [.int mdc9_30, .ref aEl, .int (nI sz_9_31)])), (aEl, .inl (cEl, 10, .inr (.inr (.inr (.inr fEl9_32)))))]) [0, 1, 2, 3, 4] rfl
        have hD9 := hD.sub (ws' := [(h0, .inr (13, [.ref sc, .ref kp, .int ik, .ref bl, .ref go, .ref ch, .ref bo])), (sc, .inr (10, [.ref aTp, .int (nI ts), .ref aHl, .int (nI nh), .long ed, .int mi, .int sn, .ref aHs, .int (nI n), .ref aWk, .int (nI wz), .ref aBk, .int (nI bz), .ref aFc])), (aHs, .inl (cHs, 8, .inr (.inr (.inr (.inr fHs))))), (bo, .inr (1, [.int mdc9_30, .ref aEl, .int (nI sz_9_31)])), (aEl, .inl (cEl, 10, .inr (.inr (.inr (.inr fEl9_32)))))]) [0, 1, 2, 3, 4] (by decide) rfl
        have hK9 := hK.sub (tys' := [(cHs, .object "MistHeaps$Heap"), (cEl, .object "java/lang/Object")]) [0, 1] rfl
        refine W.widen (k := 1) (n := 10) (by omega) (by omega) ?_
        exact W.iret (v := r_28) hx hb hr (fun tQ htQ hWQ => ⟨⟨r_28, (mdc9_30, sz_9_31, fEl9_32), rfl, ⟨by omega, hL_34⟩, by rw [htQ]; exact hP9, va_K.moved hWQ.alike hK9, hD9⟩, hS.F htQ⟩) hS.2.2 dX11_act_62
      · skip
        have hY : Fz dC dI [((ya j_8), .inr (8, [.int (yk j_8), .int (nI j_8), .int (yv j_8), .int (yc j_8)]))] [] A s := by have h9 := (hH_ j_8 (by omega)).2; rw [hpE, e_13] at h9; exact h9
        have hPc := hP.sub (ws' := [(bo, .inr (1, [.int mdc9_3, .ref aEl, .int (nI 0)])), (aEl, .inl (cEl, 10, .inr (.inr (.inr (.inr fEl9_5)))))]) [3, 4] rfl
        have hDc := hD.sub (ws' := [(bo, .inr (1, [.int mdc9_3, .ref aEl, .int (nI 0)])), (aEl, .inl (cEl, 10, .inr (.inr (.inr (.inr fEl9_5)))))]) [3, 4] (by decide) rfl
        have hKc := hK.sub (tys' := [(cEl, .object "java/lang/Object")]) [1] rfl
        have hFc := va_free (wc := [(bo, .inr (1, [.int mdc9_3, .ref aEl, .int (nI 0)])), (aEl, .inl (cEl, 10, .inr (.inr (.inr (.inr fEl9_5)))))]) hD hS hA [3, 4] rfl
        refine va_calli (va_runU (As := [.int z, .ref bo]) (rest := []) ⟨hx, hb, hml, hown, hts⟩ (c_X3_doSees_X6_1 l dC dI ad cB bS    bo aEl j_8 (yk j_8) (yv j_8) (yc j_8) z cEl fEl9_5 (ya j_8) 0 mdc9_3 H.size (by omega) ((fun k0 h0 => absurd h0 (Nat.not_lt_zero k0)))) (va_cwU 2 hts gX11_act_X3_doSees_u233X6 rfl rfl rfl rfl (by decide +kernel) ⟨Nat.le_of_ble_eq_true rfl, Nat.le_of_ble_eq_true rfl⟩) ⟨fun a U g mk q => by obtain ⟨q0, q1, qP, qK, qD, qhI_, qhB_, qhW_, qhZ⟩ := q; exact ⟨q0, q1, qP, va_K.moved (u := U) (U := U.calling g mk a) (Vm.Alike.refl U.vm) qK, qD, qhI_.same rfl rfl, qhB_.same rfl rfl, qhW_.same rfl rfl, qhZ.same rfl rfl⟩, va_recv hY.2.1 (hY.P hS) (ci := 8) (q0 := 0) rfl rfl, fun U hU hW => ⟨rfl, by rw [hU], by rw [hU]; exact hPc, va_K.moved hW.alike hKc, hDc.weaken (fun _ _ _ _ => trivial), hI_.call hS hU hW (fun q h => hFc q h), hB_.call hS hU hW (fun q h => hFc q h), hW_.call hS hU hW (fun q h => hFc q h), hY.call hS hU hW (fun q h => hFc q h)⟩⟩ rfl rfl hl.1 rfl (lv_room (Nat.le_of_ble_eq_true rfl)) dX11_act_59 ⟨Nat.le_of_ble_eq_true rfl, Nat.le_of_ble_eq_true rfl⟩) hS (fun q _ h => hFc q h) hFc (fun r_35 u tC H1 locs htC hvm hw_36 hB hz1 hk1 hS => ?_)
        obtain ⟨mdc9_37, sz_9_38, fEl9_39⟩ := u
        try dsimp only at hw_36 hB
        obtain ⟨hP1, hK1, hD1⟩ := hB
        rw [htC] at hP1
        have hK1 := va_K.moved hvm.symm hK1
        obtain ⟨hP, hD⟩ := va_join (wr := [(h0, .inr (13, [.ref sc, .ref kp, .int ik, .ref bl, .ref go, .ref ch, .ref bo])), (sc, .inr (10, [.ref aTp, .int (nI ts), .ref aHl, .int (nI nh), .long ed, .int mi, .int sn, .ref aHs, .int (nI n), .ref aWk, .int (nI wz), .ref aBk, .int (nI bz), .ref aFc])), (aHs, .inl (cHs, 8, .inr (.inr (.inr (.inr fHs)))))]) (w1 := [(bo, .inr (1, [.int mdc9_37, .ref aEl, .int (nI sz_9_38)])), (aEl, .inl (cEl, 10, .inr (.inr (.inr (.inr fEl9_39)))))]) hP hD [3, 4] [0, 1, 2] rfl rfl (by decide) (by decide) hk1 hFc hP1 hD1
        have hK := (hK.sub (tys' := [(cHs, .object "MistHeaps$Heap")]) [0] rfl).app hK1
        generalize H1 = H at hP hS ⊢
        have hP : va_P (dC, dI) vwCl [(h0, .inr (13, [.ref sc, .ref kp, .int ik, .ref bl, .ref go, .ref ch, .ref bo])), (sc, .inr (10, [.ref aTp, .int (nI ts), .ref aHl, .int (nI nh), .long ed, .int mi, .int sn, .ref aHs, .int (nI n), .ref aWk, .int (nI wz), .ref aBk, .int (nI bz), .ref aFc])), (aHs, .inl (cHs, 8, .inr (.inr (.inr (.inr fHs))))), (bo, .inr (1, [.int mdc9_37, .ref aEl, .int (nI sz_9_38)])), (aEl, .inl (cEl, 10, .inr (.inr (.inr (.inr fEl9_39)))))] H := hP
        have hD : va_D A [(h0, .inr (13, [.ref sc, .ref kp, .int ik, .ref bl, .ref go, .ref ch, .ref bo])), (sc, .inr (10, [.ref aTp, .int (nI ts), .ref aHl, .int (nI nh), .long ed, .int mi, .int sn, .ref aHs, .int (nI n), .ref aWk, .int (nI wz), .ref aBk, .int (nI bz), .ref aFc])), (aHs, .inl (cHs, 8, .inr (.inr (.inr (.inr fHs))))), (bo, .inr (1, [.int mdc9_37, .ref aEl, .int (nI sz_9_38)])), (aEl, .inl (cEl, 10, .inr (.inr (.inr (.inr fEl9_39)))))] := hD
        have hK : va_K (dC, dI) vwCl [(cHs, .object "MistHeaps$Heap"), (cEl, .object "java/lang/Object")] s := hK
        obtain ⟨h_40, hL_41⟩ := hw_36
        rw [hQ]
        have hP9 := hP.sub (ws' := [(h0, .inr (13, [.ref sc, .ref kp, .int ik, .ref bl, .ref go, .ref ch, .ref bo])), (sc, .inr (10, [.ref aTp, .int (nI ts), .ref aHl, .int (nI nh), .long ed, .int mi, .int sn, .ref aHs, .int (nI n), .ref aWk, .int (nI wz), .ref aBk, .int (nI bz), .ref aFc])), (aHs, .inl (cHs, 8, .inr (.inr (.inr (.inr fHs))))), (bo, .inr (1, [.int mdc9_37, .ref aEl, .int (nI sz_9_38)])), (aEl, .inl (cEl, 10, .inr (.inr (.inr (.inr fEl9_39)))))]) [0, 1, 2, 3, 4] rfl
        have hD9 := hD.sub (ws' := [(h0, .inr (13, [.ref sc, .ref kp, .int ik, .ref bl, .ref go, .ref ch, .ref bo])), (sc, .inr (10, [.ref aTp, .int (nI ts), .ref aHl, .int (nI nh), .long ed, .int mi, .int sn, .ref aHs, .int (nI n), .ref aWk, .int (nI wz), .ref aBk, .int (nI bz), .ref aFc])), (aHs, .inl (cHs, 8, .inr (.inr (.inr (.inr fHs))))), (bo, .inr (1, [.int mdc9_37, .ref aEl, .int (nI sz_9_38)])), (aEl, .inl (cEl, 10, .inr (.inr (.inr (.inr fEl9_39)))))]) [0, 1, 2, 3, 4] (by decide) rfl
        have hK9 := hK.sub (tys' := [(cHs, .object "MistHeaps$Heap"), (cEl, .object "java/lang/Object")]) [0, 1] rfl
        refine W.widen (k := 1) (n := 10) (by omega) (by omega) ?_
        exact W.iret (v := r_35) hx hb hr (fun tQ htQ hWQ => ⟨⟨r_35, (mdc9_37, sz_9_38, fEl9_39), rfl, ⟨by omega, hL_41⟩, by rw [htQ]; exact hP9, va_K.moved hWQ.alike hK9, hD9⟩, hS.F htQ⟩) hS.2.2 dX11_act_62
      · skip
        have hY : Fz dC dI [((ya j_8), .inr (9, [.int (yk j_8), .int (nI j_8), .int (yv j_8), .int (yc j_8)]))] [] A s := by have h9 := (hH_ j_8 (by omega)).2; rw [hpE, e_13] at h9; exact h9
        have hPc := hP.sub (ws' := [(bo, .inr (1, [.int mdc9_3, .ref aEl, .int (nI 0)])), (aEl, .inl (cEl, 10, .inr (.inr (.inr (.inr fEl9_5)))))]) [3, 4] rfl
        have hDc := hD.sub (ws' := [(bo, .inr (1, [.int mdc9_3, .ref aEl, .int (nI 0)])), (aEl, .inl (cEl, 10, .inr (.inr (.inr (.inr fEl9_5)))))]) [3, 4] (by decide) rfl
        have hKc := hK.sub (tys' := [(cEl, .object "java/lang/Object")]) [1] rfl
        have hFc := va_free (wc := [(bo, .inr (1, [.int mdc9_3, .ref aEl, .int (nI 0)])), (aEl, .inl (cEl, 10, .inr (.inr (.inr (.inr fEl9_5)))))]) hD hS hA [3, 4] rfl
        refine va_calli (va_runU (As := [.int z, .ref bo]) (rest := []) ⟨hx, hb, hml, hown, hts⟩ (c_X3_doSees_X7_1 l dC dI ad cB bS    bo aEl j_8 (yk j_8) (yv j_8) (yc j_8) z cEl fEl9_5 (ya j_8) 0 mdc9_3 H.size (by omega) ((fun k0 h0 => absurd h0 (Nat.not_lt_zero k0)))) (va_cwU 2 hts gX11_act_X3_doSees_u233X7 rfl rfl rfl rfl (by decide +kernel) ⟨Nat.le_of_ble_eq_true rfl, Nat.le_of_ble_eq_true rfl⟩) ⟨fun a U g mk q => by obtain ⟨q0, q1, qP, qK, qD, qhI_, qhB_, qhW_, qhZ⟩ := q; exact ⟨q0, q1, qP, va_K.moved (u := U) (U := U.calling g mk a) (Vm.Alike.refl U.vm) qK, qD, qhI_.same rfl rfl, qhB_.same rfl rfl, qhW_.same rfl rfl, qhZ.same rfl rfl⟩, va_recv hY.2.1 (hY.P hS) (ci := 9) (q0 := 0) rfl rfl, fun U hU hW => ⟨rfl, by rw [hU], by rw [hU]; exact hPc, va_K.moved hW.alike hKc, hDc.weaken (fun _ _ _ _ => trivial), hI_.call hS hU hW (fun q h => hFc q h), hB_.call hS hU hW (fun q h => hFc q h), hW_.call hS hU hW (fun q h => hFc q h), hY.call hS hU hW (fun q h => hFc q h)⟩⟩ rfl rfl hl.1 rfl (lv_room (Nat.le_of_ble_eq_true rfl)) dX11_act_59 ⟨Nat.le_of_ble_eq_true rfl, Nat.le_of_ble_eq_true rfl⟩) hS (fun q _ h => hFc q h) hFc (fun r_42 u tC H1 locs htC hvm hw_43 hB hz1 hk1 hS => ?_)
        obtain ⟨mdc9_44, sz_9_45, fEl9_46⟩ := u
        try dsimp only at hw_43 hB
        obtain ⟨hP1, hK1, hD1⟩ := hB
        rw [htC] at hP1
        have hK1 := va_K.moved hvm.symm hK1
        obtain ⟨hP, hD⟩ := va_join (wr := [(h0, .inr (13, [.ref sc, .ref kp, .int ik, .ref bl, .ref go, .ref ch, .ref bo])), (sc, .inr (10, [.ref aTp, .int (nI ts), .ref aHl, .int (nI nh), .long ed, .int mi, .int sn, .ref aHs, .int (nI n), .ref aWk, .int (nI wz), .ref aBk, .int (nI bz), .ref aFc])), (aHs, .inl (cHs, 8, .inr (.inr (.inr (.inr fHs)))))]) (w1 := [(bo, .inr (1, [.int mdc9_44, .ref aEl, .int (nI sz_9_45)])), (aEl, .inl (cEl, 10, .inr (.inr (.inr (.inr fEl9_46)))))]) hP hD [3, 4] [0, 1, 2] rfl rfl (by decide) (by decide) hk1 hFc hP1 hD1
        have hK := (hK.sub (tys' := [(cHs, .object "MistHeaps$Heap")]) [0] rfl).app hK1
        generalize H1 = H at hP hS ⊢
        have hP : va_P (dC, dI) vwCl [(h0, .inr (13, [.ref sc, .ref kp, .int ik, .ref bl, .ref go, .ref ch, .ref bo])), (sc, .inr (10, [.ref aTp, .int (nI ts), .ref aHl, .int (nI nh), .long ed, .int mi, .int sn, .ref aHs, .int (nI n), .ref aWk, .int (nI wz), .ref aBk, .int (nI bz), .ref aFc])), (aHs, .inl (cHs, 8, .inr (.inr (.inr (.inr fHs))))), (bo, .inr (1, [.int mdc9_44, .ref aEl, .int (nI sz_9_45)])), (aEl, .inl (cEl, 10, .inr (.inr (.inr (.inr fEl9_46)))))] H := hP
        have hD : va_D A [(h0, .inr (13, [.ref sc, .ref kp, .int ik, .ref bl, .ref go, .ref ch, .ref bo])), (sc, .inr (10, [.ref aTp, .int (nI ts), .ref aHl, .int (nI nh), .long ed, .int mi, .int sn, .ref aHs, .int (nI n), .ref aWk, .int (nI wz), .ref aBk, .int (nI bz), .ref aFc])), (aHs, .inl (cHs, 8, .inr (.inr (.inr (.inr fHs))))), (bo, .inr (1, [.int mdc9_44, .ref aEl, .int (nI sz_9_45)])), (aEl, .inl (cEl, 10, .inr (.inr (.inr (.inr fEl9_46)))))] := hD
        have hK : va_K (dC, dI) vwCl [(cHs, .object "MistHeaps$Heap"), (cEl, .object "java/lang/Object")] s := hK
        obtain ⟨h_47, hL_48⟩ := hw_43
        rw [hQ]
        have hP9 := hP.sub (ws' := [(h0, .inr (13, [.ref sc, .ref kp, .int ik, .ref bl, .ref go, .ref ch, .ref bo])), (sc, .inr (10, [.ref aTp, .int (nI ts), .ref aHl, .int (nI nh), .long ed, .int mi, .int sn, .ref aHs, .int (nI n), .ref aWk, .int (nI wz), .ref aBk, .int (nI bz), .ref aFc])), (aHs, .inl (cHs, 8, .inr (.inr (.inr (.inr fHs))))), (bo, .inr (1, [.int mdc9_44, .ref aEl, .int (nI sz_9_45)])), (aEl, .inl (cEl, 10, .inr (.inr (.inr (.inr fEl9_46)))))]) [0, 1, 2, 3, 4] rfl
        have hD9 := hD.sub (ws' := [(h0, .inr (13, [.ref sc, .ref kp, .int ik, .ref bl, .ref go, .ref ch, .ref bo])), (sc, .inr (10, [.ref aTp, .int (nI ts), .ref aHl, .int (nI nh), .long ed, .int mi, .int sn, .ref aHs, .int (nI n), .ref aWk, .int (nI wz), .ref aBk, .int (nI bz), .ref aFc])), (aHs, .inl (cHs, 8, .inr (.inr (.inr (.inr fHs))))), (bo, .inr (1, [.int mdc9_44, .ref aEl, .int (nI sz_9_45)])), (aEl, .inl (cEl, 10, .inr (.inr (.inr (.inr fEl9_46)))))]) [0, 1, 2, 3, 4] (by decide) rfl
        have hK9 := hK.sub (tys' := [(cHs, .object "MistHeaps$Heap"), (cEl, .object "java/lang/Object")]) [0, 1] rfl
        refine W.widen (k := 1) (n := 10) (by omega) (by omega) ?_
        exact W.iret (v := r_42) hx hb hr (fun tQ htQ hWQ => ⟨⟨r_42, (mdc9_44, sz_9_45, fEl9_46), rfl, ⟨by omega, hL_48⟩, by rw [htQ]; exact hP9, va_K.moved hWQ.alike hK9, hD9⟩, hS.F htQ⟩) hS.2.2 dX11_act_62
      · skip
        have hY : Fz dC dI [((ya j_8), .inr (11, [.int (yk j_8), .int (nI j_8), .int (yv j_8), .int (yc j_8)]))] [] A s := by have h9 := (hH_ j_8 (by omega)).2; rw [hpE, e_13] at h9; exact h9
        have hPc := hP.sub (ws' := [(bo, .inr (1, [.int mdc9_3, .ref aEl, .int (nI 0)])), (aEl, .inl (cEl, 10, .inr (.inr (.inr (.inr fEl9_5)))))]) [3, 4] rfl
        have hDc := hD.sub (ws' := [(bo, .inr (1, [.int mdc9_3, .ref aEl, .int (nI 0)])), (aEl, .inl (cEl, 10, .inr (.inr (.inr (.inr fEl9_5)))))]) [3, 4] (by decide) rfl
        have hKc := hK.sub (tys' := [(cEl, .object "java/lang/Object")]) [1] rfl
        have hFc := va_free (wc := [(bo, .inr (1, [.int mdc9_3, .ref aEl, .int (nI 0)])), (aEl, .inl (cEl, 10, .inr (.inr (.inr (.inr fEl9_5)))))]) hD hS hA [3, 4] rfl
        refine va_calli (va_runU (As := [.int z, .ref bo]) (rest := []) ⟨hx, hb, hml, hown, hts⟩ (c_X9_doSees_X9_1 l dC dI ad cB bS    bo aEl j_8 (yk j_8) (yv j_8) (yc j_8) z cEl fEl9_5 (ya j_8) 0 mdc9_3 H.size (by omega) ((fun k0 h0 => absurd h0 (Nat.not_lt_zero k0)))) (va_cwO 2 hts gX11_act_X9_doSees_u233X9 rfl rfl rfl kc_xAct1_3 (by decide +kernel) ⟨Nat.le_of_ble_eq_true rfl, Nat.le_of_ble_eq_true rfl⟩) ⟨fun a U g mk q => by obtain ⟨q0, q1, qP, qK, qD, qhI_, qhB_, qhW_, qhZ⟩ := q; exact ⟨q0, q1, qP, va_K.moved (u := U) (U := U.calling g mk a) (Vm.Alike.refl U.vm) qK, qD, qhI_.same rfl rfl, qhB_.same rfl rfl, qhW_.same rfl rfl, qhZ.same rfl rfl⟩, va_recv hY.2.1 (hY.P hS) (ci := 11) (q0 := 0) rfl rfl, fun U hU hW => ⟨rfl, by rw [hU], by rw [hU]; exact hPc, va_K.moved hW.alike hKc, hDc.weaken (fun _ _ _ _ => trivial), hI_.call hS hU hW (fun q h => hFc q h), hB_.call hS hU hW (fun q h => hFc q h), hW_.call hS hU hW (fun q h => hFc q h), hY.call hS hU hW (fun q h => hFc q h)⟩⟩ rfl rfl hl.1 rfl (lv_room (Nat.le_of_ble_eq_true rfl)) dX11_act_59 ⟨Nat.le_of_ble_eq_true rfl, Nat.le_of_ble_eq_true rfl⟩) hS (fun q _ h => hFc q h) hFc (fun r_49 u tC H1 locs htC hvm hw_50 hB hz1 hk1 hS => ?_)
        obtain ⟨mdc9_51, sz_9_52, fEl9_53⟩ := u
        try dsimp only at hw_50 hB
        obtain ⟨hP1, hK1, hD1⟩ := hB
        rw [htC] at hP1
        have hK1 := va_K.moved hvm.symm hK1
        obtain ⟨hP, hD⟩ := va_join (wr := [(h0, .inr (13, [.ref sc, .ref kp, .int ik, .ref bl, .ref go, .ref ch, .ref bo])), (sc, .inr (10, [.ref aTp, .int (nI ts), .ref aHl, .int (nI nh), .long ed, .int mi, .int sn, .ref aHs, .int (nI n), .ref aWk, .int (nI wz), .ref aBk, .int (nI bz), .ref aFc])), (aHs, .inl (cHs, 8, .inr (.inr (.inr (.inr fHs)))))]) (w1 := [(bo, .inr (1, [.int mdc9_51, .ref aEl, .int (nI sz_9_52)])), (aEl, .inl (cEl, 10, .inr (.inr (.inr (.inr fEl9_53)))))]) hP hD [3, 4] [0, 1, 2] rfl rfl (by decide) (by decide) hk1 hFc hP1 hD1
        have hK := (hK.sub (tys' := [(cHs, .object "MistHeaps$Heap")]) [0] rfl).app hK1
        generalize H1 = H at hP hS ⊢
        have hP : va_P (dC, dI) vwCl [(h0, .inr (13, [.ref sc, .ref kp, .int ik, .ref bl, .ref go, .ref ch, .ref bo])), (sc, .inr (10, [.ref aTp, .int (nI ts), .ref aHl, .int (nI nh), .long ed, .int mi, .int sn, .ref aHs, .int (nI n), .ref aWk, .int (nI wz), .ref aBk, .int (nI bz), .ref aFc])), (aHs, .inl (cHs, 8, .inr (.inr (.inr (.inr fHs))))), (bo, .inr (1, [.int mdc9_51, .ref aEl, .int (nI sz_9_52)])), (aEl, .inl (cEl, 10, .inr (.inr (.inr (.inr fEl9_53)))))] H := hP
        have hD : va_D A [(h0, .inr (13, [.ref sc, .ref kp, .int ik, .ref bl, .ref go, .ref ch, .ref bo])), (sc, .inr (10, [.ref aTp, .int (nI ts), .ref aHl, .int (nI nh), .long ed, .int mi, .int sn, .ref aHs, .int (nI n), .ref aWk, .int (nI wz), .ref aBk, .int (nI bz), .ref aFc])), (aHs, .inl (cHs, 8, .inr (.inr (.inr (.inr fHs))))), (bo, .inr (1, [.int mdc9_51, .ref aEl, .int (nI sz_9_52)])), (aEl, .inl (cEl, 10, .inr (.inr (.inr (.inr fEl9_53)))))] := hD
        have hK : va_K (dC, dI) vwCl [(cHs, .object "MistHeaps$Heap"), (cEl, .object "java/lang/Object")] s := hK
        obtain ⟨h_54, hL_55⟩ := hw_50
        rw [hQ]
        have hP9 := hP.sub (ws' := [(h0, .inr (13, [.ref sc, .ref kp, .int ik, .ref bl, .ref go, .ref ch, .ref bo])), (sc, .inr (10, [.ref aTp, .int (nI ts), .ref aHl, .int (nI nh), .long ed, .int mi, .int sn, .ref aHs, .int (nI n), .ref aWk, .int (nI wz), .ref aBk, .int (nI bz), .ref aFc])), (aHs, .inl (cHs, 8, .inr (.inr (.inr (.inr fHs))))), (bo, .inr (1, [.int mdc9_51, .ref aEl, .int (nI sz_9_52)])), (aEl, .inl (cEl, 10, .inr (.inr (.inr (.inr fEl9_53)))))]) [0, 1, 2, 3, 4] rfl
        have hD9 := hD.sub (ws' := [(h0, .inr (13, [.ref sc, .ref kp, .int ik, .ref bl, .ref go, .ref ch, .ref bo])), (sc, .inr (10, [.ref aTp, .int (nI ts), .ref aHl, .int (nI nh), .long ed, .int mi, .int sn, .ref aHs, .int (nI n), .ref aWk, .int (nI wz), .ref aBk, .int (nI bz), .ref aFc])), (aHs, .inl (cHs, 8, .inr (.inr (.inr (.inr fHs))))), (bo, .inr (1, [.int mdc9_51, .ref aEl, .int (nI sz_9_52)])), (aEl, .inl (cEl, 10, .inr (.inr (.inr (.inr fEl9_53)))))]) [0, 1, 2, 3, 4] (by decide) rfl
        have hK9 := hK.sub (tys' := [(cHs, .object "MistHeaps$Heap"), (cEl, .object "java/lang/Object")]) [0, 1] rfl
        refine W.widen (k := 1) (n := 10) (by omega) (by omega) ?_
        exact W.iret (v := r_49) hx hb hr (fun tQ htQ hWQ => ⟨⟨r_49, (mdc9_51, sz_9_52, fEl9_53), rfl, ⟨by omega, hL_55⟩, by rw [htQ]; exact hP9, va_K.moved hWQ.alike hK9, hD9⟩, hS.F htQ⟩) hS.2.2 dX11_act_62
      · skip
        have hY : Fz dC dI [((ya j_8), .inr (12, [.int (yk j_8), .int (nI j_8), .int (yv j_8), .int (yc j_8)]))] [] A s := by have h9 := (hH_ j_8 (by omega)).2; rw [hpE, e_13] at h9; exact h9
        have hPc := hP.sub (ws' := [(bo, .inr (1, [.int mdc9_3, .ref aEl, .int (nI 0)])), (aEl, .inl (cEl, 10, .inr (.inr (.inr (.inr fEl9_5)))))]) [3, 4] rfl
        have hDc := hD.sub (ws' := [(bo, .inr (1, [.int mdc9_3, .ref aEl, .int (nI 0)])), (aEl, .inl (cEl, 10, .inr (.inr (.inr (.inr fEl9_5)))))]) [3, 4] (by decide) rfl
        have hKc := hK.sub (tys' := [(cEl, .object "java/lang/Object")]) [1] rfl
        have hFc := va_free (wc := [(bo, .inr (1, [.int mdc9_3, .ref aEl, .int (nI 0)])), (aEl, .inl (cEl, 10, .inr (.inr (.inr (.inr fEl9_5)))))]) hD hS hA [3, 4] rfl
        refine va_calli (va_runU (As := [.int z, .ref bo]) (rest := []) ⟨hx, hb, hml, hown, hts⟩ (c_X4_doSees_X10_1 l dC dI ad cB bS    bo aEl j_8 (yk j_8) (yv j_8) (yc j_8) z cEl fEl9_5 (ya j_8) 0 mdc9_3 H.size (by omega) ((fun k0 h0 => absurd h0 (Nat.not_lt_zero k0)))) (va_cwO 2 hts gX11_act_X4_doSees_u233X10 rfl rfl rfl kc_xAct1_3 (by decide +kernel) ⟨Nat.le_of_ble_eq_true rfl, Nat.le_of_ble_eq_true rfl⟩) ⟨fun a U g mk q => by obtain ⟨q0, q1, qP, qK, qD, qhI_, qhB_, qhW_, qhZ⟩ := q; exact ⟨q0, q1, qP, va_K.moved (u := U) (U := U.calling g mk a) (Vm.Alike.refl U.vm) qK, qD, qhI_.same rfl rfl, qhB_.same rfl rfl, qhW_.same rfl rfl, qhZ.same rfl rfl⟩, va_recv hY.2.1 (hY.P hS) (ci := 12) (q0 := 0) rfl rfl, fun U hU hW => ⟨rfl, by rw [hU], by rw [hU]; exact hPc, va_K.moved hW.alike hKc, hDc.weaken (fun _ _ _ _ => trivial), hI_.call hS hU hW (fun q h => hFc q h), hB_.call hS hU hW (fun q h => hFc q h), hW_.call hS hU hW (fun q h => hFc q h), hY.call hS hU hW (fun q h => hFc q h)⟩⟩ rfl rfl hl.1 rfl (lv_room (Nat.le_of_ble_eq_true rfl)) dX11_act_59 ⟨Nat.le_of_ble_eq_true rfl, Nat.le_of_ble_eq_true rfl⟩) hS (fun q _ h => hFc q h) hFc (fun r_56 u tC H1 locs htC hvm hw_57 hB hz1 hk1 hS => ?_)
        obtain ⟨mdc9_58, sz_9_59, fEl9_60⟩ := u
        try dsimp only at hw_57 hB
        obtain ⟨hP1, hK1, hD1⟩ := hB
        rw [htC] at hP1
        have hK1 := va_K.moved hvm.symm hK1
        obtain ⟨hP, hD⟩ := va_join (wr := [(h0, .inr (13, [.ref sc, .ref kp, .int ik, .ref bl, .ref go, .ref ch, .ref bo])), (sc, .inr (10, [.ref aTp, .int (nI ts), .ref aHl, .int (nI nh), .long ed, .int mi, .int sn, .ref aHs, .int (nI n), .ref aWk, .int (nI wz), .ref aBk, .int (nI bz), .ref aFc])), (aHs, .inl (cHs, 8, .inr (.inr (.inr (.inr fHs)))))]) (w1 := [(bo, .inr (1, [.int mdc9_58, .ref aEl, .int (nI sz_9_59)])), (aEl, .inl (cEl, 10, .inr (.inr (.inr (.inr fEl9_60)))))]) hP hD [3, 4] [0, 1, 2] rfl rfl (by decide) (by decide) hk1 hFc hP1 hD1
        have hK := (hK.sub (tys' := [(cHs, .object "MistHeaps$Heap")]) [0] rfl).app hK1
        generalize H1 = H at hP hS ⊢
        have hP : va_P (dC, dI) vwCl [(h0, .inr (13, [.ref sc, .ref kp, .int ik, .ref bl, .ref go, .ref ch, .ref bo])), (sc, .inr (10, [.ref aTp, .int (nI ts), .ref aHl, .int (nI nh), .long ed, .int mi, .int sn, .ref aHs, .int (nI n), .ref aWk, .int (nI wz), .ref aBk, .int (nI bz), .ref aFc])), (aHs, .inl (cHs, 8, .inr (.inr (.inr (.inr fHs))))), (bo, .inr (1, [.int mdc9_58, .ref aEl, .int (nI sz_9_59)])), (aEl, .inl (cEl, 10, .inr (.inr (.inr (.inr fEl9_60)))))] H := hP
        have hD : va_D A [(h0, .inr (13, [.ref sc, .ref kp, .int ik, .ref bl, .ref go, .ref ch, .ref bo])), (sc, .inr (10, [.ref aTp, .int (nI ts), .ref aHl, .int (nI nh), .long ed, .int mi, .int sn, .ref aHs, .int (nI n), .ref aWk, .int (nI wz), .ref aBk, .int (nI bz), .ref aFc])), (aHs, .inl (cHs, 8, .inr (.inr (.inr (.inr fHs))))), (bo, .inr (1, [.int mdc9_58, .ref aEl, .int (nI sz_9_59)])), (aEl, .inl (cEl, 10, .inr (.inr (.inr (.inr fEl9_60)))))] := hD
        have hK : va_K (dC, dI) vwCl [(cHs, .object "MistHeaps$Heap"), (cEl, .object "java/lang/Object")] s := hK
        obtain ⟨h_61, hL_62⟩ := hw_57
        rw [hQ]
        have hP9 := hP.sub (ws' := [(h0, .inr (13, [.ref sc, .ref kp, .int ik, .ref bl, .ref go, .ref ch, .ref bo])), (sc, .inr (10, [.ref aTp, .int (nI ts), .ref aHl, .int (nI nh), .long ed, .int mi, .int sn, .ref aHs, .int (nI n), .ref aWk, .int (nI wz), .ref aBk, .int (nI bz), .ref aFc])), (aHs, .inl (cHs, 8, .inr (.inr (.inr (.inr fHs))))), (bo, .inr (1, [.int mdc9_58, .ref aEl, .int (nI sz_9_59)])), (aEl, .inl (cEl, 10, .inr (.inr (.inr (.inr fEl9_60)))))]) [0, 1, 2, 3, 4] rfl
        have hD9 := hD.sub (ws' := [(h0, .inr (13, [.ref sc, .ref kp, .int ik, .ref bl, .ref go, .ref ch, .ref bo])), (sc, .inr (10, [.ref aTp, .int (nI ts), .ref aHl, .int (nI nh), .long ed, .int mi, .int sn, .ref aHs, .int (nI n), .ref aWk, .int (nI wz), .ref aBk, .int (nI bz), .ref aFc])), (aHs, .inl (cHs, 8, .inr (.inr (.inr (.inr fHs))))), (bo, .inr (1, [.int mdc9_58, .ref aEl, .int (nI sz_9_59)])), (aEl, .inl (cEl, 10, .inr (.inr (.inr (.inr fEl9_60)))))]) [0, 1, 2, 3, 4] (by decide) rfl
        have hK9 := hK.sub (tys' := [(cHs, .object "MistHeaps$Heap"), (cEl, .object "java/lang/Object")]) [0, 1] rfl
        refine W.widen (k := 1) (n := 10) (by omega) (by omega) ?_
        exact W.iret (v := r_56) hx hb hr (fun tQ htQ hWQ => ⟨⟨r_56, (mdc9_58, sz_9_59, fEl9_60), rfl, ⟨by omega, hL_62⟩, by rw [htQ]; exact hP9, va_K.moved hWQ.alike hK9, hD9⟩, hS.F htQ⟩) hS.2.2 dX11_act_62
    by_cases c_12_1 : y = 1
    · skip
      refine lv_tableIn (tgt := 63) hx hb dX11_act_25 (by rw [c_12_1]; decide) (by rw [c_12_1]; decide) (by rw [c_12_1]; rfl) (by decide) ?_
      refine lv_aload hx hb dX11_act_63 (lv_at hl 0 rfl) ?_
      refine lv_iload_n hx hb dX11_act_65 rfl (lv_at hl 4 rfl) ?_
      refine lv_aload_n hx hb dX11_act_66 rfl (lv_at hl 1 rfl) ?_
      refine va_get (D := (dC, dI)) (ci := 13) (v := .ref bo) (C := RX11) (T := TX11) (N := 7) hx hb hts kc_xAct1_0 hown hK hP 0 rfl rfl 6 (by decide) (hts (.fieldLink RX11 49 "MistHeaps" "bodies" "Ljava/util/ArrayList;") kc_xAct1_1) (fun _ h9 => h9) rfl dX11_act_67 ?_
      rcases (show yi j_8 = 3 ∨ yi j_8 = 5 ∨ yi j_8 = 6 ∨ yi j_8 = 8 ∨ yi j_8 = 9 ∨ yi j_8 = 11 ∨ yi j_8 = 12 from (hH_ j_8 (by omega)).1) with e_63 | e_63 | e_63 | e_63 | e_63 | e_63 | e_63
      · skip
        have hY : Fz dC dI [((ya j_8), .inr (3, [.int (yk j_8), .int (nI j_8), .int (yv j_8), .int (yc j_8)]))] [] A s := by have h9 := (hH_ j_8 (by omega)).2; rw [hpE, e_63] at h9; exact h9
        have hPc := hP.sub (ws' := [(bo, .inr (1, [.int mdc9_3, .ref aEl, .int (nI 0)])), (aEl, .inl (cEl, 10, .inr (.inr (.inr (.inr fEl9_5)))))]) [3, 4] rfl
        have hDc := hD.sub (ws' := [(bo, .inr (1, [.int mdc9_3, .ref aEl, .int (nI 0)])), (aEl, .inl (cEl, 10, .inr (.inr (.inr (.inr fEl9_5)))))]) [3, 4] (by decide) rfl
        have hKc := hK.sub (tys' := [(cEl, .object "java/lang/Object")]) [1] rfl
        have hFc := va_free (wc := [(bo, .inr (1, [.int mdc9_3, .ref aEl, .int (nI 0)])), (aEl, .inl (cEl, 10, .inr (.inr (.inr (.inr fEl9_5)))))]) hD hS hA [3, 4] rfl
        refine va_calli (va_runU (As := [.int z, .ref bo]) (rest := []) ⟨hx, hb, hml, hown, hts⟩ (c_X3_doGoes_X1_1 l dC dI ad cB bS    bo aEl j_8 (yk j_8) (yv j_8) (yc j_8) z cEl fEl9_5 (ya j_8) 0 mdc9_3 H.size (by omega) ((fun k0 h0 => absurd h0 (Nat.not_lt_zero k0)))) (va_cwU 2 hts gX11_act_X3_doGoes_u237X1 rfl rfl rfl rfl (by decide +kernel) ⟨Nat.le_of_ble_eq_true rfl, Nat.le_of_ble_eq_true rfl⟩) ⟨fun a U g mk q => by obtain ⟨q0, q1, qP, qK, qD, qhI_, qhB_, qhW_, qhZ⟩ := q; exact ⟨q0, q1, qP, va_K.moved (u := U) (U := U.calling g mk a) (Vm.Alike.refl U.vm) qK, qD, qhI_.same rfl rfl, qhB_.same rfl rfl, qhW_.same rfl rfl, qhZ.same rfl rfl⟩, va_recv hY.2.1 (hY.P hS) (ci := 3) (q0 := 0) rfl rfl, fun U hU hW => ⟨rfl, by rw [hU], by rw [hU]; exact hPc, va_K.moved hW.alike hKc, hDc.weaken (fun _ _ _ _ => trivial), hI_.call hS hU hW (fun q h => hFc q h), hB_.call hS hU hW (fun q h => hFc q h), hW_.call hS hU hW (fun q h => hFc q h), hY.call hS hU hW (fun q h => hFc q h)⟩⟩ rfl rfl hl.1 rfl (lv_room (Nat.le_of_ble_eq_true rfl)) dX11_act_70 ⟨Nat.le_of_ble_eq_true rfl, Nat.le_of_ble_eq_true rfl⟩) hS (fun q _ h => hFc q h) hFc (fun r_64 u tC H1 locs htC hvm hw_65 hB hz1 hk1 hS => ?_)
        obtain ⟨mdc9_66, sz_9_67, fEl9_68⟩ := u
        try dsimp only at hw_65 hB
        obtain ⟨hP1, hK1, hD1⟩ := hB
        rw [htC] at hP1
        have hK1 := va_K.moved hvm.symm hK1
        obtain ⟨hP, hD⟩ := va_join (wr := [(h0, .inr (13, [.ref sc, .ref kp, .int ik, .ref bl, .ref go, .ref ch, .ref bo])), (sc, .inr (10, [.ref aTp, .int (nI ts), .ref aHl, .int (nI nh), .long ed, .int mi, .int sn, .ref aHs, .int (nI n), .ref aWk, .int (nI wz), .ref aBk, .int (nI bz), .ref aFc])), (aHs, .inl (cHs, 8, .inr (.inr (.inr (.inr fHs)))))]) (w1 := [(bo, .inr (1, [.int mdc9_66, .ref aEl, .int (nI sz_9_67)])), (aEl, .inl (cEl, 10, .inr (.inr (.inr (.inr fEl9_68)))))]) hP hD [3, 4] [0, 1, 2] rfl rfl (by decide) (by decide) hk1 hFc hP1 hD1
        have hK := (hK.sub (tys' := [(cHs, .object "MistHeaps$Heap")]) [0] rfl).app hK1
        generalize H1 = H at hP hS ⊢
        have hP : va_P (dC, dI) vwCl [(h0, .inr (13, [.ref sc, .ref kp, .int ik, .ref bl, .ref go, .ref ch, .ref bo])), (sc, .inr (10, [.ref aTp, .int (nI ts), .ref aHl, .int (nI nh), .long ed, .int mi, .int sn, .ref aHs, .int (nI n), .ref aWk, .int (nI wz), .ref aBk, .int (nI bz), .ref aFc])), (aHs, .inl (cHs, 8, .inr (.inr (.inr (.inr fHs))))), (bo, .inr (1, [.int mdc9_66, .ref aEl, .int (nI sz_9_67)])), (aEl, .inl (cEl, 10, .inr (.inr (.inr (.inr fEl9_68)))))] H := hP
        have hD : va_D A [(h0, .inr (13, [.ref sc, .ref kp, .int ik, .ref bl, .ref go, .ref ch, .ref bo])), (sc, .inr (10, [.ref aTp, .int (nI ts), .ref aHl, .int (nI nh), .long ed, .int mi, .int sn, .ref aHs, .int (nI n), .ref aWk, .int (nI wz), .ref aBk, .int (nI bz), .ref aFc])), (aHs, .inl (cHs, 8, .inr (.inr (.inr (.inr fHs))))), (bo, .inr (1, [.int mdc9_66, .ref aEl, .int (nI sz_9_67)])), (aEl, .inl (cEl, 10, .inr (.inr (.inr (.inr fEl9_68)))))] := hD
        have hK : va_K (dC, dI) vwCl [(cHs, .object "MistHeaps$Heap"), (cEl, .object "java/lang/Object")] s := hK
        obtain ⟨h_69, hL_70⟩ := hw_65
        rw [hQ]
        have hP9 := hP.sub (ws' := [(h0, .inr (13, [.ref sc, .ref kp, .int ik, .ref bl, .ref go, .ref ch, .ref bo])), (sc, .inr (10, [.ref aTp, .int (nI ts), .ref aHl, .int (nI nh), .long ed, .int mi, .int sn, .ref aHs, .int (nI n), .ref aWk, .int (nI wz), .ref aBk, .int (nI bz), .ref aFc])), (aHs, .inl (cHs, 8, .inr (.inr (.inr (.inr fHs))))), (bo, .inr (1, [.int mdc9_66, .ref aEl, .int (nI sz_9_67)])), (aEl, .inl (cEl, 10, .inr (.inr (.inr (.inr fEl9_68)))))]) [0, 1, 2, 3, 4] rfl
        have hD9 := hD.sub (ws' := [(h0, .inr (13, [.ref sc, .ref kp, .int ik, .ref bl, .ref go, .ref ch, .ref bo])), (sc, .inr (10, [.ref aTp, .int (nI ts), .ref aHl, .int (nI nh), .long ed, .int mi, .int sn, .ref aHs, .int (nI n), .ref aWk, .int (nI wz), .ref aBk, .int (nI bz), .ref aFc])), (aHs, .inl (cHs, 8, .inr (.inr (.inr (.inr fHs))))), (bo, .inr (1, [.int mdc9_66, .ref aEl, .int (nI sz_9_67)])), (aEl, .inl (cEl, 10, .inr (.inr (.inr (.inr fEl9_68)))))]) [0, 1, 2, 3, 4] (by decide) rfl
        have hK9 := hK.sub (tys' := [(cHs, .object "MistHeaps$Heap"), (cEl, .object "java/lang/Object")]) [0, 1] rfl
        refine W.widen (k := 1) (n := 10) (by omega) (by omega) ?_
        exact W.iret (v := r_64) hx hb hr (fun tQ htQ hWQ => ⟨⟨r_64, (mdc9_66, sz_9_67, fEl9_68), rfl, ⟨by omega, hL_70⟩, by rw [htQ]; exact hP9, va_K.moved hWQ.alike hK9, hD9⟩, hS.F htQ⟩) hS.2.2 dX11_act_73
      · skip
        have hY : Fz dC dI [((ya j_8), .inr (5, [.int (yk j_8), .int (nI j_8), .int (yv j_8), .int (yc j_8)]))] [] A s := by have h9 := (hH_ j_8 (by omega)).2; rw [hpE, e_63] at h9; exact h9
        have hPc := hP.sub (ws' := [(bo, .inr (1, [.int mdc9_3, .ref aEl, .int (nI 0)])), (aEl, .inl (cEl, 10, .inr (.inr (.inr (.inr fEl9_5)))))]) [3, 4] rfl
        have hDc := hD.sub (ws' := [(bo, .inr (1, [.int mdc9_3, .ref aEl, .int (nI 0)])), (aEl, .inl (cEl, 10, .inr (.inr (.inr (.inr fEl9_5)))))]) [3, 4] (by decide) rfl
        have hKc := hK.sub (tys' := [(cEl, .object "java/lang/Object")]) [1] rfl
        have hFc := va_free (wc := [(bo, .inr (1, [.int mdc9_3, .ref aEl, .int (nI 0)])), (aEl, .inl (cEl, 10, .inr (.inr (.inr (.inr fEl9_5)))))]) hD hS hA [3, 4] rfl
        refine va_calli (va_runV (As := [.int z, .ref bo]) (rest := []) ⟨hx, hb, hml, hown, hts⟩ (c_X3_doGoes_X3_1 l dC dI ad cB bS    bo aEl j_8 (yk j_8) (yv j_8) (yc j_8) z cEl fEl9_5 (ya j_8) 0 mdc9_3 H.size (by omega) ((fun k0 h0 => absurd h0 (Nat.not_lt_zero k0)))) (cwV 2 hts gX11_act_X3_doGoes rfl rfl rfl (by decide +kernel) ⟨Nat.le_of_ble_eq_true rfl, Nat.le_of_ble_eq_true rfl⟩) ⟨fun a U g mk q => by obtain ⟨q0, q1, qP, qK, qD, qhI_, qhB_, qhW_, qhZ⟩ := q; exact ⟨q0, q1, qP, va_K.moved (u := U) (U := U.calling g mk a) (Vm.Alike.refl U.vm) qK, qD, qhI_.same rfl rfl, qhB_.same rfl rfl, qhW_.same rfl rfl, qhZ.same rfl rfl⟩, va_recv hY.2.1 (hY.P hS) (ci := 5) (q0 := 0) rfl rfl, fun U hU hW => ⟨rfl, by rw [hU], by rw [hU]; exact hPc, va_K.moved hW.alike hKc, hDc.weaken (fun _ _ _ _ => trivial), hI_.call hS hU hW (fun q h => hFc q h), hB_.call hS hU hW (fun q h => hFc q h), hW_.call hS hU hW (fun q h => hFc q h), hY.call hS hU hW (fun q h => hFc q h)⟩⟩ rfl rfl hl.1 rfl (lv_room (Nat.le_of_ble_eq_true rfl)) dX11_act_70 ⟨Nat.le_of_ble_eq_true rfl, Nat.le_of_ble_eq_true rfl⟩) hS (fun q _ h => hFc q h) hFc (fun r_71 u tC H1 locs htC hvm hw_72 hB hz1 hk1 hS => ?_)
        obtain ⟨mdc9_73, sz_9_74, fEl9_75⟩ := u
        try dsimp only at hw_72 hB
        obtain ⟨hP1, hK1, hD1⟩ := hB
        rw [htC] at hP1
        have hK1 := va_K.moved hvm.symm hK1
        obtain ⟨hP, hD⟩ := va_join (wr := [(h0, .inr (13, [.ref sc, .ref kp, .int ik, .ref bl, .ref go, .ref ch, .ref bo])), (sc, .inr (10, [.ref aTp, .int (nI ts), .ref aHl, .int (nI nh), .long ed, .int mi, .int sn, .ref aHs, .int (nI n), .ref aWk, .int (nI wz), .ref aBk, .int (nI bz), .ref aFc])), (aHs, .inl (cHs, 8, .inr (.inr (.inr (.inr fHs)))))]) (w1 := [(bo, .inr (1, [.int mdc9_73, .ref aEl, .int (nI sz_9_74)])), (aEl, .inl (cEl, 10, .inr (.inr (.inr (.inr fEl9_75)))))]) hP hD [3, 4] [0, 1, 2] rfl rfl (by decide) (by decide) hk1 hFc hP1 hD1
        have hK := (hK.sub (tys' := [(cHs, .object "MistHeaps$Heap")]) [0] rfl).app hK1
        generalize H1 = H at hP hS ⊢
        have hP : va_P (dC, dI) vwCl [(h0, .inr (13, [.ref sc, .ref kp, .int ik, .ref bl, .ref go, .ref ch, .ref bo])), (sc, .inr (10, [.ref aTp, .int (nI ts), .ref aHl, .int (nI nh), .long ed, .int mi, .int sn, .ref aHs, .int (nI n), .ref aWk, .int (nI wz), .ref aBk, .int (nI bz), .ref aFc])), (aHs, .inl (cHs, 8, .inr (.inr (.inr (.inr fHs))))), (bo, .inr (1, [.int mdc9_73, .ref aEl, .int (nI sz_9_74)])), (aEl, .inl (cEl, 10, .inr (.inr (.inr (.inr fEl9_75)))))] H := hP
        have hD : va_D A [(h0, .inr (13, [.ref sc, .ref kp, .int ik, .ref bl, .ref go, .ref ch, .ref bo])), (sc, .inr (10, [.ref aTp, .int (nI ts), .ref aHl, .int (nI nh), .long ed, .int mi, .int sn, .ref aHs, .int (nI n), .ref aWk, .int (nI wz), .ref aBk, .int (nI bz), .ref aFc])), (aHs, .inl (cHs, 8, .inr (.inr (.inr (.inr fHs))))), (bo, .inr (1, [.int mdc9_73, .ref aEl, .int (nI sz_9_74)])), (aEl, .inl (cEl, 10, .inr (.inr (.inr (.inr fEl9_75)))))] := hD
        have hK : va_K (dC, dI) vwCl [(cHs, .object "MistHeaps$Heap"), (cEl, .object "java/lang/Object")] s := hK
        obtain ⟨h_76, hL_77⟩ := hw_72
        rw [hQ]
        have hP9 := hP.sub (ws' := [(h0, .inr (13, [.ref sc, .ref kp, .int ik, .ref bl, .ref go, .ref ch, .ref bo])), (sc, .inr (10, [.ref aTp, .int (nI ts), .ref aHl, .int (nI nh), .long ed, .int mi, .int sn, .ref aHs, .int (nI n), .ref aWk, .int (nI wz), .ref aBk, .int (nI bz), .ref aFc])), (aHs, .inl (cHs, 8, .inr (.inr (.inr (.inr fHs))))), (bo, .inr (1, [.int mdc9_73, .ref aEl, .int (nI sz_9_74)])), (aEl, .inl (cEl, 10, .inr (.inr (.inr (.inr fEl9_75)))))]) [0, 1, 2, 3, 4] rfl
        have hD9 := hD.sub (ws' := [(h0, .inr (13, [.ref sc, .ref kp, .int ik, .ref bl, .ref go, .ref ch, .ref bo])), (sc, .inr (10, [.ref aTp, .int (nI ts), .ref aHl, .int (nI nh), .long ed, .int mi, .int sn, .ref aHs, .int (nI n), .ref aWk, .int (nI wz), .ref aBk, .int (nI bz), .ref aFc])), (aHs, .inl (cHs, 8, .inr (.inr (.inr (.inr fHs))))), (bo, .inr (1, [.int mdc9_73, .ref aEl, .int (nI sz_9_74)])), (aEl, .inl (cEl, 10, .inr (.inr (.inr (.inr fEl9_75)))))]) [0, 1, 2, 3, 4] (by decide) rfl
        have hK9 := hK.sub (tys' := [(cHs, .object "MistHeaps$Heap"), (cEl, .object "java/lang/Object")]) [0, 1] rfl
        refine W.widen (k := 1) (n := 10) (by omega) (by omega) ?_
        exact W.iret (v := r_71) hx hb hr (fun tQ htQ hWQ => ⟨⟨r_71, (mdc9_73, sz_9_74, fEl9_75), rfl, ⟨by omega, hL_77⟩, by rw [htQ]; exact hP9, va_K.moved hWQ.alike hK9, hD9⟩, hS.F htQ⟩) hS.2.2 dX11_act_73
      · skip
        have hY : Fz dC dI [((ya j_8), .inr (6, [.int (yk j_8), .int (nI j_8), .int (yv j_8), .int (yc j_8)]))] [] A s := by have h9 := (hH_ j_8 (by omega)).2; rw [hpE, e_63] at h9; exact h9
        have hPc := hP.sub (ws' := [(bo, .inr (1, [.int mdc9_3, .ref aEl, .int (nI 0)])), (aEl, .inl (cEl, 10, .inr (.inr (.inr (.inr fEl9_5)))))]) [3, 4] rfl
        have hDc := hD.sub (ws' := [(bo, .inr (1, [.int mdc9_3, .ref aEl, .int (nI 0)])), (aEl, .inl (cEl, 10, .inr (.inr (.inr (.inr fEl9_5)))))]) [3, 4] (by decide) rfl
        have hKc := hK.sub (tys' := [(cEl, .object "java/lang/Object")]) [1] rfl
        have hFc := va_free (wc := [(bo, .inr (1, [.int mdc9_3, .ref aEl, .int (nI 0)])), (aEl, .inl (cEl, 10, .inr (.inr (.inr (.inr fEl9_5)))))]) hD hS hA [3, 4] rfl
        refine va_calli (va_runU (As := [.int z, .ref bo]) (rest := []) ⟨hx, hb, hml, hown, hts⟩ (c_X3_doGoes_X4_1 l dC dI ad cB bS    bo aEl j_8 (yk j_8) (yv j_8) (yc j_8) z cEl fEl9_5 (ya j_8) 0 mdc9_3 H.size (by omega) ((fun k0 h0 => absurd h0 (Nat.not_lt_zero k0)))) (va_cwU 2 hts gX11_act_X3_doGoes_u237X4 rfl rfl rfl rfl (by decide +kernel) ⟨Nat.le_of_ble_eq_true rfl, Nat.le_of_ble_eq_true rfl⟩) ⟨fun a U g mk q => by obtain ⟨q0, q1, qP, qK, qD, qhI_, qhB_, qhW_, qhZ⟩ := q; exact ⟨q0, q1, qP, va_K.moved (u := U) (U := U.calling g mk a) (Vm.Alike.refl U.vm) qK, qD, qhI_.same rfl rfl, qhB_.same rfl rfl, qhW_.same rfl rfl, qhZ.same rfl rfl⟩, va_recv hY.2.1 (hY.P hS) (ci := 6) (q0 := 0) rfl rfl, fun U hU hW => ⟨rfl, by rw [hU], by rw [hU]; exact hPc, va_K.moved hW.alike hKc, hDc.weaken (fun _ _ _ _ => trivial), hI_.call hS hU hW (fun q h => hFc q h), hB_.call hS hU hW (fun q h => hFc q h), hW_.call hS hU hW (fun q h => hFc q h), hY.call hS hU hW (fun q h => hFc q h)⟩⟩ rfl rfl hl.1 rfl (lv_room (Nat.le_of_ble_eq_true rfl)) dX11_act_70 ⟨Nat.le_of_ble_eq_true rfl, Nat.le_of_ble_eq_true rfl⟩) hS (fun q _ h => hFc q h) hFc (fun r_78 u tC H1 locs htC hvm hw_79 hB hz1 hk1 hS => ?_)
        obtain ⟨mdc9_80, sz_9_81, fEl9_82⟩ := u
        try dsimp only at hw_79 hB
        obtain ⟨hP1, hK1, hD1⟩ := hB
        rw [htC] at hP1
        have hK1 := va_K.moved hvm.symm hK1
        obtain ⟨hP, hD⟩ := va_join (wr := [(h0, .inr (13, [.ref sc, .ref kp, .int ik, .ref bl, .ref go, .ref ch, .ref bo])), (sc, .inr (10, [.ref aTp, .int (nI ts), .ref aHl, .int (nI nh), .long ed, .int mi, .int sn, .ref aHs, .int (nI n), .ref aWk, .int (nI wz), .ref aBk, .int (nI bz), .ref aFc])), (aHs, .inl (cHs, 8, .inr (.inr (.inr (.inr fHs)))))]) (w1 := [(bo, .inr (1, [.int mdc9_80, .ref aEl, .int (nI sz_9_81)])), (aEl, .inl (cEl, 10, .inr (.inr (.inr (.inr fEl9_82)))))]) hP hD [3, 4] [0, 1, 2] rfl rfl (by decide) (by decide) hk1 hFc hP1 hD1
        have hK := (hK.sub (tys' := [(cHs, .object "MistHeaps$Heap")]) [0] rfl).app hK1
        generalize H1 = H at hP hS ⊢
        have hP : va_P (dC, dI) vwCl [(h0, .inr (13, [.ref sc, .ref kp, .int ik, .ref bl, .ref go, .ref ch, .ref bo])), (sc, .inr (10, [.ref aTp, .int (nI ts), .ref aHl, .int (nI nh), .long ed, .int mi, .int sn, .ref aHs, .int (nI n), .ref aWk, .int (nI wz), .ref aBk, .int (nI bz), .ref aFc])), (aHs, .inl (cHs, 8, .inr (.inr (.inr (.inr fHs))))), (bo, .inr (1, [.int mdc9_80, .ref aEl, .int (nI sz_9_81)])), (aEl, .inl (cEl, 10, .inr (.inr (.inr (.inr fEl9_82)))))] H := hP
        have hD : va_D A [(h0, .inr (13, [.ref sc, .ref kp, .int ik, .ref bl, .ref go, .ref ch, .ref bo])), (sc, .inr (10, [.ref aTp, .int (nI ts), .ref aHl, .int (nI nh), .long ed, .int mi, .int sn, .ref aHs, .int (nI n), .ref aWk, .int (nI wz), .ref aBk, .int (nI bz), .ref aFc])), (aHs, .inl (cHs, 8, .inr (.inr (.inr (.inr fHs))))), (bo, .inr (1, [.int mdc9_80, .ref aEl, .int (nI sz_9_81)])), (aEl, .inl (cEl, 10, .inr (.inr (.inr (.inr fEl9_82)))))] := hD
        have hK : va_K (dC, dI) vwCl [(cHs, .object "MistHeaps$Heap"), (cEl, .object "java/lang/Object")] s := hK
        obtain ⟨h_83, hL_84⟩ := hw_79
        rw [hQ]
        have hP9 := hP.sub (ws' := [(h0, .inr (13, [.ref sc, .ref kp, .int ik, .ref bl, .ref go, .ref ch, .ref bo])), (sc, .inr (10, [.ref aTp, .int (nI ts), .ref aHl, .int (nI nh), .long ed, .int mi, .int sn, .ref aHs, .int (nI n), .ref aWk, .int (nI wz), .ref aBk, .int (nI bz), .ref aFc])), (aHs, .inl (cHs, 8, .inr (.inr (.inr (.inr fHs))))), (bo, .inr (1, [.int mdc9_80, .ref aEl, .int (nI sz_9_81)])), (aEl, .inl (cEl, 10, .inr (.inr (.inr (.inr fEl9_82)))))]) [0, 1, 2, 3, 4] rfl
        have hD9 := hD.sub (ws' := [(h0, .inr (13, [.ref sc, .ref kp, .int ik, .ref bl, .ref go, .ref ch, .ref bo])), (sc, .inr (10, [.ref aTp, .int (nI ts), .ref aHl, .int (nI nh), .long ed, .int mi, .int sn, .ref aHs, .int (nI n), .ref aWk, .int (nI wz), .ref aBk, .int (nI bz), .ref aFc])), (aHs, .inl (cHs, 8, .inr (.inr (.inr (.inr fHs))))), (bo, .inr (1, [.int mdc9_80, .ref aEl, .int (nI sz_9_81)])), (aEl, .inl (cEl, 10, .inr (.inr (.inr (.inr fEl9_82)))))]) [0, 1, 2, 3, 4] (by decide) rfl
        have hK9 := hK.sub (tys' := [(cHs, .object "MistHeaps$Heap"), (cEl, .object "java/lang/Object")]) [0, 1] rfl
        refine W.widen (k := 1) (n := 10) (by omega) (by omega) ?_
        exact W.iret (v := r_78) hx hb hr (fun tQ htQ hWQ => ⟨⟨r_78, (mdc9_80, sz_9_81, fEl9_82), rfl, ⟨by omega, hL_84⟩, by rw [htQ]; exact hP9, va_K.moved hWQ.alike hK9, hD9⟩, hS.F htQ⟩) hS.2.2 dX11_act_73
      · skip
        have hY : Fz dC dI [((ya j_8), .inr (8, [.int (yk j_8), .int (nI j_8), .int (yv j_8), .int (yc j_8)]))] [] A s := by have h9 := (hH_ j_8 (by omega)).2; rw [hpE, e_63] at h9; exact h9
        have hPc := hP.sub (ws' := [(bo, .inr (1, [.int mdc9_3, .ref aEl, .int (nI 0)])), (aEl, .inl (cEl, 10, .inr (.inr (.inr (.inr fEl9_5)))))]) [3, 4] rfl
        have hDc := hD.sub (ws' := [(bo, .inr (1, [.int mdc9_3, .ref aEl, .int (nI 0)])), (aEl, .inl (cEl, 10, .inr (.inr (.inr (.inr fEl9_5)))))]) [3, 4] (by decide) rfl
        have hKc := hK.sub (tys' := [(cEl, .object "java/lang/Object")]) [1] rfl
        have hFc := va_free (wc := [(bo, .inr (1, [.int mdc9_3, .ref aEl, .int (nI 0)])), (aEl, .inl (cEl, 10, .inr (.inr (.inr (.inr fEl9_5)))))]) hD hS hA [3, 4] rfl
        refine va_calli (va_runU (As := [.int z, .ref bo]) (rest := []) ⟨hx, hb, hml, hown, hts⟩ (c_X6_doGoes_X6_1 l dC dI ad cB bS    bo aEl j_8 (yk j_8) (yv j_8) (yc j_8) z cEl fEl9_5 (ya j_8) 0 mdc9_3 H.size (by omega) ((fun k0 h0 => absurd h0 (Nat.not_lt_zero k0)))) (va_cwO 2 hts gX11_act_X6_doGoes_u237X6 rfl rfl rfl kc_xAct1_4 (by decide +kernel) ⟨Nat.le_of_ble_eq_true rfl, Nat.le_of_ble_eq_true rfl⟩) ⟨fun a U g mk q => by obtain ⟨q0, q1, qP, qK, qD, qhI_, qhB_, qhW_, qhZ⟩ := q; exact ⟨q0, q1, qP, va_K.moved (u := U) (U := U.calling g mk a) (Vm.Alike.refl U.vm) qK, qD, qhI_.same rfl rfl, qhB_.same rfl rfl, qhW_.same rfl rfl, qhZ.same rfl rfl⟩, va_recv hY.2.1 (hY.P hS) (ci := 8) (q0 := 0) rfl rfl, fun U hU hW => ⟨rfl, by rw [hU], by rw [hU]; exact hPc, va_K.moved hW.alike hKc, hDc.weaken (fun _ _ _ _ => trivial), hI_.call hS hU hW (fun q h => hFc q h), hB_.call hS hU hW (fun q h => hFc q h), hW_.call hS hU hW (fun q h => hFc q h), hY.call hS hU hW (fun q h => hFc q h)⟩⟩ rfl rfl hl.1 rfl (lv_room (Nat.le_of_ble_eq_true rfl)) dX11_act_70 ⟨Nat.le_of_ble_eq_true rfl, Nat.le_of_ble_eq_true rfl⟩) hS (fun q _ h => hFc q h) hFc (fun r_85 u tC H1 locs htC hvm hw_86 hB hz1 hk1 hS => ?_)
        obtain ⟨mdc9_87, sz_9_88, fEl9_89⟩ := u
        try dsimp only at hw_86 hB
        obtain ⟨hP1, hK1, hD1⟩ := hB
        rw [htC] at hP1
        have hK1 := va_K.moved hvm.symm hK1
        obtain ⟨hP, hD⟩ := va_join (wr := [(h0, .inr (13, [.ref sc, .ref kp, .int ik, .ref bl, .ref go, .ref ch, .ref bo])), (sc, .inr (10, [.ref aTp, .int (nI ts), .ref aHl, .int (nI nh), .long ed, .int mi, .int sn, .ref aHs, .int (nI n), .ref aWk, .int (nI wz), .ref aBk, .int (nI bz), .ref aFc])), (aHs, .inl (cHs, 8, .inr (.inr (.inr (.inr fHs)))))]) (w1 := [(bo, .inr (1, [.int mdc9_87, .ref aEl, .int (nI sz_9_88)])), (aEl, .inl (cEl, 10, .inr (.inr (.inr (.inr fEl9_89)))))]) hP hD [3, 4] [0, 1, 2] rfl rfl (by decide) (by decide) hk1 hFc hP1 hD1
        have hK := (hK.sub (tys' := [(cHs, .object "MistHeaps$Heap")]) [0] rfl).app hK1
        generalize H1 = H at hP hS ⊢
        have hP : va_P (dC, dI) vwCl [(h0, .inr (13, [.ref sc, .ref kp, .int ik, .ref bl, .ref go, .ref ch, .ref bo])), (sc, .inr (10, [.ref aTp, .int (nI ts), .ref aHl, .int (nI nh), .long ed, .int mi, .int sn, .ref aHs, .int (nI n), .ref aWk, .int (nI wz), .ref aBk, .int (nI bz), .ref aFc])), (aHs, .inl (cHs, 8, .inr (.inr (.inr (.inr fHs))))), (bo, .inr (1, [.int mdc9_87, .ref aEl, .int (nI sz_9_88)])), (aEl, .inl (cEl, 10, .inr (.inr (.inr (.inr fEl9_89)))))] H := hP
        have hD : va_D A [(h0, .inr (13, [.ref sc, .ref kp, .int ik, .ref bl, .ref go, .ref ch, .ref bo])), (sc, .inr (10, [.ref aTp, .int (nI ts), .ref aHl, .int (nI nh), .long ed, .int mi, .int sn, .ref aHs, .int (nI n), .ref aWk, .int (nI wz), .ref aBk, .int (nI bz), .ref aFc])), (aHs, .inl (cHs, 8, .inr (.inr (.inr (.inr fHs))))), (bo, .inr (1, [.int mdc9_87, .ref aEl, .int (nI sz_9_88)])), (aEl, .inl (cEl, 10, .inr (.inr (.inr (.inr fEl9_89)))))] := hD
        have hK : va_K (dC, dI) vwCl [(cHs, .object "MistHeaps$Heap"), (cEl, .object "java/lang/Object")] s := hK
        obtain ⟨h_90, hL_91⟩ := hw_86
        rw [hQ]
        have hP9 := hP.sub (ws' := [(h0, .inr (13, [.ref sc, .ref kp, .int ik, .ref bl, .ref go, .ref ch, .ref bo])), (sc, .inr (10, [.ref aTp, .int (nI ts), .ref aHl, .int (nI nh), .long ed, .int mi, .int sn, .ref aHs, .int (nI n), .ref aWk, .int (nI wz), .ref aBk, .int (nI bz), .ref aFc])), (aHs, .inl (cHs, 8, .inr (.inr (.inr (.inr fHs))))), (bo, .inr (1, [.int mdc9_87, .ref aEl, .int (nI sz_9_88)])), (aEl, .inl (cEl, 10, .inr (.inr (.inr (.inr fEl9_89)))))]) [0, 1, 2, 3, 4] rfl
        have hD9 := hD.sub (ws' := [(h0, .inr (13, [.ref sc, .ref kp, .int ik, .ref bl, .ref go, .ref ch, .ref bo])), (sc, .inr (10, [.ref aTp, .int (nI ts), .ref aHl, .int (nI nh), .long ed, .int mi, .int sn, .ref aHs, .int (nI n), .ref aWk, .int (nI wz), .ref aBk, .int (nI bz), .ref aFc])), (aHs, .inl (cHs, 8, .inr (.inr (.inr (.inr fHs))))), (bo, .inr (1, [.int mdc9_87, .ref aEl, .int (nI sz_9_88)])), (aEl, .inl (cEl, 10, .inr (.inr (.inr (.inr fEl9_89)))))]) [0, 1, 2, 3, 4] (by decide) rfl
        have hK9 := hK.sub (tys' := [(cHs, .object "MistHeaps$Heap"), (cEl, .object "java/lang/Object")]) [0, 1] rfl
        refine W.widen (k := 1) (n := 10) (by omega) (by omega) ?_
        exact W.iret (v := r_85) hx hb hr (fun tQ htQ hWQ => ⟨⟨r_85, (mdc9_87, sz_9_88, fEl9_89), rfl, ⟨by omega, hL_91⟩, by rw [htQ]; exact hP9, va_K.moved hWQ.alike hK9, hD9⟩, hS.F htQ⟩) hS.2.2 dX11_act_73
      · skip
        have hY : Fz dC dI [((ya j_8), .inr (9, [.int (yk j_8), .int (nI j_8), .int (yv j_8), .int (yc j_8)]))] [] A s := by have h9 := (hH_ j_8 (by omega)).2; rw [hpE, e_63] at h9; exact h9
        have hPc := hP.sub (ws' := [(bo, .inr (1, [.int mdc9_3, .ref aEl, .int (nI 0)])), (aEl, .inl (cEl, 10, .inr (.inr (.inr (.inr fEl9_5)))))]) [3, 4] rfl
        have hDc := hD.sub (ws' := [(bo, .inr (1, [.int mdc9_3, .ref aEl, .int (nI 0)])), (aEl, .inl (cEl, 10, .inr (.inr (.inr (.inr fEl9_5)))))]) [3, 4] (by decide) rfl
        have hKc := hK.sub (tys' := [(cEl, .object "java/lang/Object")]) [1] rfl
        have hFc := va_free (wc := [(bo, .inr (1, [.int mdc9_3, .ref aEl, .int (nI 0)])), (aEl, .inl (cEl, 10, .inr (.inr (.inr (.inr fEl9_5)))))]) hD hS hA [3, 4] rfl
        refine va_calli (va_runU (As := [.int z, .ref bo]) (rest := []) ⟨hx, hb, hml, hown, hts⟩ (c_X7_doGoes_X7_1 l dC dI ad cB bS    bo aEl j_8 (yk j_8) (yv j_8) (yc j_8) z cEl fEl9_5 (ya j_8) 0 mdc9_3 H.size (by omega) ((fun k0 h0 => absurd h0 (Nat.not_lt_zero k0)))) (va_cwO 2 hts gX11_act_X7_doGoes_u237X7 rfl rfl rfl kc_xAct1_4 (by decide +kernel) ⟨Nat.le_of_ble_eq_true rfl, Nat.le_of_ble_eq_true rfl⟩) ⟨fun a U g mk q => by obtain ⟨q0, q1, qP, qK, qD, qhI_, qhB_, qhW_, qhZ⟩ := q; exact ⟨q0, q1, qP, va_K.moved (u := U) (U := U.calling g mk a) (Vm.Alike.refl U.vm) qK, qD, qhI_.same rfl rfl, qhB_.same rfl rfl, qhW_.same rfl rfl, qhZ.same rfl rfl⟩, va_recv hY.2.1 (hY.P hS) (ci := 9) (q0 := 0) rfl rfl, fun U hU hW => ⟨rfl, by rw [hU], by rw [hU]; exact hPc, va_K.moved hW.alike hKc, hDc.weaken (fun _ _ _ _ => trivial), hI_.call hS hU hW (fun q h => hFc q h), hB_.call hS hU hW (fun q h => hFc q h), hW_.call hS hU hW (fun q h => hFc q h), hY.call hS hU hW (fun q h => hFc q h)⟩⟩ rfl rfl hl.1 rfl (lv_room (Nat.le_of_ble_eq_true rfl)) dX11_act_70 ⟨Nat.le_of_ble_eq_true rfl, Nat.le_of_ble_eq_true rfl⟩) hS (fun q _ h => hFc q h) hFc (fun r_92 u tC H1 locs htC hvm hw_93 hB hz1 hk1 hS => ?_)
        obtain ⟨mdc9_94, sz_9_95, fEl9_96⟩ := u
        try dsimp only at hw_93 hB
        obtain ⟨hP1, hK1, hD1⟩ := hB
        rw [htC] at hP1
        have hK1 := va_K.moved hvm.symm hK1
        obtain ⟨hP, hD⟩ := va_join (wr := [(h0, .inr (13, [.ref sc, .ref kp, .int ik, .ref bl, .ref go, .ref ch, .ref bo])), (sc, .inr (10, [.ref aTp, .int (nI ts), .ref aHl, .int (nI nh), .long ed, .int mi, .int sn, .ref aHs, .int (nI n), .ref aWk, .int (nI wz), .ref aBk, .int (nI bz), .ref aFc])), (aHs, .inl (cHs, 8, .inr (.inr (.inr (.inr fHs)))))]) (w1 := [(bo, .inr (1, [.int mdc9_94, .ref aEl, .int (nI sz_9_95)])), (aEl, .inl (cEl, 10, .inr (.inr (.inr (.inr fEl9_96)))))]) hP hD [3, 4] [0, 1, 2] rfl rfl (by decide) (by decide) hk1 hFc hP1 hD1
        have hK := (hK.sub (tys' := [(cHs, .object "MistHeaps$Heap")]) [0] rfl).app hK1
        generalize H1 = H at hP hS ⊢
        have hP : va_P (dC, dI) vwCl [(h0, .inr (13, [.ref sc, .ref kp, .int ik, .ref bl, .ref go, .ref ch, .ref bo])), (sc, .inr (10, [.ref aTp, .int (nI ts), .ref aHl, .int (nI nh), .long ed, .int mi, .int sn, .ref aHs, .int (nI n), .ref aWk, .int (nI wz), .ref aBk, .int (nI bz), .ref aFc])), (aHs, .inl (cHs, 8, .inr (.inr (.inr (.inr fHs))))), (bo, .inr (1, [.int mdc9_94, .ref aEl, .int (nI sz_9_95)])), (aEl, .inl (cEl, 10, .inr (.inr (.inr (.inr fEl9_96)))))] H := hP
        have hD : va_D A [(h0, .inr (13, [.ref sc, .ref kp, .int ik, .ref bl, .ref go, .ref ch, .ref bo])), (sc, .inr (10, [.ref aTp, .int (nI ts), .ref aHl, .int (nI nh), .long ed, .int mi, .int sn, .ref aHs, .int (nI n), .ref aWk, .int (nI wz), .ref aBk, .int (nI bz), .ref aFc])), (aHs, .inl (cHs, 8, .inr (.inr (.inr (.inr fHs))))), (bo, .inr (1, [.int mdc9_94, .ref aEl, .int (nI sz_9_95)])), (aEl, .inl (cEl, 10, .inr (.inr (.inr (.inr fEl9_96)))))] := hD
        have hK : va_K (dC, dI) vwCl [(cHs, .object "MistHeaps$Heap"), (cEl, .object "java/lang/Object")] s := hK
        obtain ⟨h_97, hL_98⟩ := hw_93
        rw [hQ]
        have hP9 := hP.sub (ws' := [(h0, .inr (13, [.ref sc, .ref kp, .int ik, .ref bl, .ref go, .ref ch, .ref bo])), (sc, .inr (10, [.ref aTp, .int (nI ts), .ref aHl, .int (nI nh), .long ed, .int mi, .int sn, .ref aHs, .int (nI n), .ref aWk, .int (nI wz), .ref aBk, .int (nI bz), .ref aFc])), (aHs, .inl (cHs, 8, .inr (.inr (.inr (.inr fHs))))), (bo, .inr (1, [.int mdc9_94, .ref aEl, .int (nI sz_9_95)])), (aEl, .inl (cEl, 10, .inr (.inr (.inr (.inr fEl9_96)))))]) [0, 1, 2, 3, 4] rfl
        have hD9 := hD.sub (ws' := [(h0, .inr (13, [.ref sc, .ref kp, .int ik, .ref bl, .ref go, .ref ch, .ref bo])), (sc, .inr (10, [.ref aTp, .int (nI ts), .ref aHl, .int (nI nh), .long ed, .int mi, .int sn, .ref aHs, .int (nI n), .ref aWk, .int (nI wz), .ref aBk, .int (nI bz), .ref aFc])), (aHs, .inl (cHs, 8, .inr (.inr (.inr (.inr fHs))))), (bo, .inr (1, [.int mdc9_94, .ref aEl, .int (nI sz_9_95)])), (aEl, .inl (cEl, 10, .inr (.inr (.inr (.inr fEl9_96)))))]) [0, 1, 2, 3, 4] (by decide) rfl
        have hK9 := hK.sub (tys' := [(cHs, .object "MistHeaps$Heap"), (cEl, .object "java/lang/Object")]) [0, 1] rfl
        refine W.widen (k := 1) (n := 10) (by omega) (by omega) ?_
        exact W.iret (v := r_92) hx hb hr (fun tQ htQ hWQ => ⟨⟨r_92, (mdc9_94, sz_9_95, fEl9_96), rfl, ⟨by omega, hL_98⟩, by rw [htQ]; exact hP9, va_K.moved hWQ.alike hK9, hD9⟩, hS.F htQ⟩) hS.2.2 dX11_act_73
      · skip
        have hY : Fz dC dI [((ya j_8), .inr (11, [.int (yk j_8), .int (nI j_8), .int (yv j_8), .int (yc j_8)]))] [] A s := by have h9 := (hH_ j_8 (by omega)).2; rw [hpE, e_63] at h9; exact h9
        have hPc := hP.sub (ws' := [(bo, .inr (1, [.int mdc9_3, .ref aEl, .int (nI 0)])), (aEl, .inl (cEl, 10, .inr (.inr (.inr (.inr fEl9_5)))))]) [3, 4] rfl
        have hDc := hD.sub (ws' := [(bo, .inr (1, [.int mdc9_3, .ref aEl, .int (nI 0)])), (aEl, .inl (cEl, 10, .inr (.inr (.inr (.inr fEl9_5)))))]) [3, 4] (by decide) rfl
        have hKc := hK.sub (tys' := [(cEl, .object "java/lang/Object")]) [1] rfl
        have hFc := va_free (wc := [(bo, .inr (1, [.int mdc9_3, .ref aEl, .int (nI 0)])), (aEl, .inl (cEl, 10, .inr (.inr (.inr (.inr fEl9_5)))))]) hD hS hA [3, 4] rfl
        refine va_calli (va_runU (As := [.int z, .ref bo]) (rest := []) ⟨hx, hb, hml, hown, hts⟩ (c_X6_doGoes_X9_1 l dC dI ad cB bS    bo aEl j_8 (yk j_8) (yv j_8) (yc j_8) z cEl fEl9_5 (ya j_8) 0 mdc9_3 H.size (by omega) ((fun k0 h0 => absurd h0 (Nat.not_lt_zero k0)))) (va_cwO 2 hts gX11_act_X6_doGoes_u237X9 rfl rfl rfl kc_xAct1_4 (by decide +kernel) ⟨Nat.le_of_ble_eq_true rfl, Nat.le_of_ble_eq_true rfl⟩) ⟨fun a U g mk q => by obtain ⟨q0, q1, qP, qK, qD, qhI_, qhB_, qhW_, qhZ⟩ := q; exact ⟨q0, q1, qP, va_K.moved (u := U) (U := U.calling g mk a) (Vm.Alike.refl U.vm) qK, qD, qhI_.same rfl rfl, qhB_.same rfl rfl, qhW_.same rfl rfl, qhZ.same rfl rfl⟩, va_recv hY.2.1 (hY.P hS) (ci := 11) (q0 := 0) rfl rfl, fun U hU hW => ⟨rfl, by rw [hU], by rw [hU]; exact hPc, va_K.moved hW.alike hKc, hDc.weaken (fun _ _ _ _ => trivial), hI_.call hS hU hW (fun q h => hFc q h), hB_.call hS hU hW (fun q h => hFc q h), hW_.call hS hU hW (fun q h => hFc q h), hY.call hS hU hW (fun q h => hFc q h)⟩⟩ rfl rfl hl.1 rfl (lv_room (Nat.le_of_ble_eq_true rfl)) dX11_act_70 ⟨Nat.le_of_ble_eq_true rfl, Nat.le_of_ble_eq_true rfl⟩) hS (fun q _ h => hFc q h) hFc (fun r_99 u tC H1 locs htC hvm hw_100 hB hz1 hk1 hS => ?_)
        obtain ⟨mdc9_101, sz_9_102, fEl9_103⟩ := u
        try dsimp only at hw_100 hB
        obtain ⟨hP1, hK1, hD1⟩ := hB
        rw [htC] at hP1
        have hK1 := va_K.moved hvm.symm hK1
        obtain ⟨hP, hD⟩ := va_join (wr := [(h0, .inr (13, [.ref sc, .ref kp, .int ik, .ref bl, .ref go, .ref ch, .ref bo])), (sc, .inr (10, [.ref aTp, .int (nI ts), .ref aHl, .int (nI nh), .long ed, .int mi, .int sn, .ref aHs, .int (nI n), .ref aWk, .int (nI wz), .ref aBk, .int (nI bz), .ref aFc])), (aHs, .inl (cHs, 8, .inr (.inr (.inr (.inr fHs)))))]) (w1 := [(bo, .inr (1, [.int mdc9_101, .ref aEl, .int (nI sz_9_102)])), (aEl, .inl (cEl, 10, .inr (.inr (.inr (.inr fEl9_103)))))]) hP hD [3, 4] [0, 1, 2] rfl rfl (by decide) (by decide) hk1 hFc hP1 hD1
        have hK := (hK.sub (tys' := [(cHs, .object "MistHeaps$Heap")]) [0] rfl).app hK1
        generalize H1 = H at hP hS ⊢
        have hP : va_P (dC, dI) vwCl [(h0, .inr (13, [.ref sc, .ref kp, .int ik, .ref bl, .ref go, .ref ch, .ref bo])), (sc, .inr (10, [.ref aTp, .int (nI ts), .ref aHl, .int (nI nh), .long ed, .int mi, .int sn, .ref aHs, .int (nI n), .ref aWk, .int (nI wz), .ref aBk, .int (nI bz), .ref aFc])), (aHs, .inl (cHs, 8, .inr (.inr (.inr (.inr fHs))))), (bo, .inr (1, [.int mdc9_101, .ref aEl, .int (nI sz_9_102)])), (aEl, .inl (cEl, 10, .inr (.inr (.inr (.inr fEl9_103)))))] H := hP
        have hD : va_D A [(h0, .inr (13, [.ref sc, .ref kp, .int ik, .ref bl, .ref go, .ref ch, .ref bo])), (sc, .inr (10, [.ref aTp, .int (nI ts), .ref aHl, .int (nI nh), .long ed, .int mi, .int sn, .ref aHs, .int (nI n), .ref aWk, .int (nI wz), .ref aBk, .int (nI bz), .ref aFc])), (aHs, .inl (cHs, 8, .inr (.inr (.inr (.inr fHs))))), (bo, .inr (1, [.int mdc9_101, .ref aEl, .int (nI sz_9_102)])), (aEl, .inl (cEl, 10, .inr (.inr (.inr (.inr fEl9_103)))))] := hD
        have hK : va_K (dC, dI) vwCl [(cHs, .object "MistHeaps$Heap"), (cEl, .object "java/lang/Object")] s := hK
        obtain ⟨h_104, hL_105⟩ := hw_100
        rw [hQ]
        have hP9 := hP.sub (ws' := [(h0, .inr (13, [.ref sc, .ref kp, .int ik, .ref bl, .ref go, .ref ch, .ref bo])), (sc, .inr (10, [.ref aTp, .int (nI ts), .ref aHl, .int (nI nh), .long ed, .int mi, .int sn, .ref aHs, .int (nI n), .ref aWk, .int (nI wz), .ref aBk, .int (nI bz), .ref aFc])), (aHs, .inl (cHs, 8, .inr (.inr (.inr (.inr fHs))))), (bo, .inr (1, [.int mdc9_101, .ref aEl, .int (nI sz_9_102)])), (aEl, .inl (cEl, 10, .inr (.inr (.inr (.inr fEl9_103)))))]) [0, 1, 2, 3, 4] rfl
        have hD9 := hD.sub (ws' := [(h0, .inr (13, [.ref sc, .ref kp, .int ik, .ref bl, .ref go, .ref ch, .ref bo])), (sc, .inr (10, [.ref aTp, .int (nI ts), .ref aHl, .int (nI nh), .long ed, .int mi, .int sn, .ref aHs, .int (nI n), .ref aWk, .int (nI wz), .ref aBk, .int (nI bz), .ref aFc])), (aHs, .inl (cHs, 8, .inr (.inr (.inr (.inr fHs))))), (bo, .inr (1, [.int mdc9_101, .ref aEl, .int (nI sz_9_102)])), (aEl, .inl (cEl, 10, .inr (.inr (.inr (.inr fEl9_103)))))]) [0, 1, 2, 3, 4] (by decide) rfl
        have hK9 := hK.sub (tys' := [(cHs, .object "MistHeaps$Heap"), (cEl, .object "java/lang/Object")]) [0, 1] rfl
        refine W.widen (k := 1) (n := 10) (by omega) (by omega) ?_
        exact W.iret (v := r_99) hx hb hr (fun tQ htQ hWQ => ⟨⟨r_99, (mdc9_101, sz_9_102, fEl9_103), rfl, ⟨by omega, hL_105⟩, by rw [htQ]; exact hP9, va_K.moved hWQ.alike hK9, hD9⟩, hS.F htQ⟩) hS.2.2 dX11_act_73
      · skip
        have hY : Fz dC dI [((ya j_8), .inr (12, [.int (yk j_8), .int (nI j_8), .int (yv j_8), .int (yc j_8)]))] [] A s := by have h9 := (hH_ j_8 (by omega)).2; rw [hpE, e_63] at h9; exact h9
        have hPc := hP.sub (ws' := [(bo, .inr (1, [.int mdc9_3, .ref aEl, .int (nI 0)])), (aEl, .inl (cEl, 10, .inr (.inr (.inr (.inr fEl9_5)))))]) [3, 4] rfl
        have hDc := hD.sub (ws' := [(bo, .inr (1, [.int mdc9_3, .ref aEl, .int (nI 0)])), (aEl, .inl (cEl, 10, .inr (.inr (.inr (.inr fEl9_5)))))]) [3, 4] (by decide) rfl
        have hKc := hK.sub (tys' := [(cEl, .object "java/lang/Object")]) [1] rfl
        have hFc := va_free (wc := [(bo, .inr (1, [.int mdc9_3, .ref aEl, .int (nI 0)])), (aEl, .inl (cEl, 10, .inr (.inr (.inr (.inr fEl9_5)))))]) hD hS hA [3, 4] rfl
        refine va_calli (va_runU (As := [.int z, .ref bo]) (rest := []) ⟨hx, hb, hml, hown, hts⟩ (c_X3_doGoes_X10_1 l dC dI ad cB bS    bo aEl j_8 (yk j_8) (yv j_8) (yc j_8) z cEl fEl9_5 (ya j_8) 0 mdc9_3 H.size (by omega) ((fun k0 h0 => absurd h0 (Nat.not_lt_zero k0)))) (va_cwU 2 hts gX11_act_X3_doGoes_u237X10 rfl rfl rfl rfl (by decide +kernel) ⟨Nat.le_of_ble_eq_true rfl, Nat.le_of_ble_eq_true rfl⟩) ⟨fun a U g mk q => by obtain ⟨q0, q1, qP, qK, qD, qhI_, qhB_, qhW_, qhZ⟩ := q; exact ⟨q0, q1, qP, va_K.moved (u := U) (U := U.calling g mk a) (Vm.Alike.refl U.vm) qK, qD, qhI_.same rfl rfl, qhB_.same rfl rfl, qhW_.same rfl rfl, qhZ.same rfl rfl⟩, va_recv hY.2.1 (hY.P hS) (ci := 12) (q0 := 0) rfl rfl, fun U hU hW => ⟨rfl, by rw [hU], by rw [hU]; exact hPc, va_K.moved hW.alike hKc, hDc.weaken (fun _ _ _ _ => trivial), hI_.call hS hU hW (fun q h => hFc q h), hB_.call hS hU hW (fun q h => hFc q h), hW_.call hS hU hW (fun q h => hFc q h), hY.call hS hU hW (fun q h => hFc q h)⟩⟩ rfl rfl hl.1 rfl (lv_room (Nat.le_of_ble_eq_true rfl)) dX11_act_70 ⟨Nat.le_of_ble_eq_true rfl, Nat.le_of_ble_eq_true rfl⟩) hS (fun q _ h => hFc q h) hFc (fun r_106 u tC H1 locs htC hvm hw_107 hB hz1 hk1 hS => ?_)
        obtain ⟨mdc9_108, sz_9_109, fEl9_110⟩ := u
        try dsimp only at hw_107 hB
        obtain ⟨hP1, hK1, hD1⟩ := hB
        rw [htC] at hP1
        have hK1 := va_K.moved hvm.symm hK1
        obtain ⟨hP, hD⟩ := va_join (wr := [(h0, .inr (13, [.ref sc, .ref kp, .int ik, .ref bl, .ref go, .ref ch, .ref bo])), (sc, .inr (10, [.ref aTp, .int (nI ts), .ref aHl, .int (nI nh), .long ed, .int mi, .int sn, .ref aHs, .int (nI n), .ref aWk, .int (nI wz), .ref aBk, .int (nI bz), .ref aFc])), (aHs, .inl (cHs, 8, .inr (.inr (.inr (.inr fHs)))))]) (w1 := [(bo, .inr (1, [.int mdc9_108, .ref aEl, .int (nI sz_9_109)])), (aEl, .inl (cEl, 10, .inr (.inr (.inr (.inr fEl9_110)))))]) hP hD [3, 4] [0, 1, 2] rfl rfl (by decide) (by decide) hk1 hFc hP1 hD1
        have hK := (hK.sub (tys' := [(cHs, .object "MistHeaps$Heap")]) [0] rfl).app hK1
        generalize H1 = H at hP hS ⊢
        have hP : va_P (dC, dI) vwCl [(h0, .inr (13, [.ref sc, .ref kp, .int ik, .ref bl, .ref go, .ref ch, .ref bo])), (sc, .inr (10, [.ref aTp, .int (nI ts), .ref aHl, .int (nI nh), .long ed, .int mi, .int sn, .ref aHs, .int (nI n), .ref aWk, .int (nI wz), .ref aBk, .int (nI bz), .ref aFc])), (aHs, .inl (cHs, 8, .inr (.inr (.inr (.inr fHs))))), (bo, .inr (1, [.int mdc9_108, .ref aEl, .int (nI sz_9_109)])), (aEl, .inl (cEl, 10, .inr (.inr (.inr (.inr fEl9_110)))))] H := hP
        have hD : va_D A [(h0, .inr (13, [.ref sc, .ref kp, .int ik, .ref bl, .ref go, .ref ch, .ref bo])), (sc, .inr (10, [.ref aTp, .int (nI ts), .ref aHl, .int (nI nh), .long ed, .int mi, .int sn, .ref aHs, .int (nI n), .ref aWk, .int (nI wz), .ref aBk, .int (nI bz), .ref aFc])), (aHs, .inl (cHs, 8, .inr (.inr (.inr (.inr fHs))))), (bo, .inr (1, [.int mdc9_108, .ref aEl, .int (nI sz_9_109)])), (aEl, .inl (cEl, 10, .inr (.inr (.inr (.inr fEl9_110)))))] := hD
        have hK : va_K (dC, dI) vwCl [(cHs, .object "MistHeaps$Heap"), (cEl, .object "java/lang/Object")] s := hK
        obtain ⟨h_111, hL_112⟩ := hw_107
        rw [hQ]
        have hP9 := hP.sub (ws' := [(h0, .inr (13, [.ref sc, .ref kp, .int ik, .ref bl, .ref go, .ref ch, .ref bo])), (sc, .inr (10, [.ref aTp, .int (nI ts), .ref aHl, .int (nI nh), .long ed, .int mi, .int sn, .ref aHs, .int (nI n), .ref aWk, .int (nI wz), .ref aBk, .int (nI bz), .ref aFc])), (aHs, .inl (cHs, 8, .inr (.inr (.inr (.inr fHs))))), (bo, .inr (1, [.int mdc9_108, .ref aEl, .int (nI sz_9_109)])), (aEl, .inl (cEl, 10, .inr (.inr (.inr (.inr fEl9_110)))))]) [0, 1, 2, 3, 4] rfl
        have hD9 := hD.sub (ws' := [(h0, .inr (13, [.ref sc, .ref kp, .int ik, .ref bl, .ref go, .ref ch, .ref bo])), (sc, .inr (10, [.ref aTp, .int (nI ts), .ref aHl, .int (nI nh), .long ed, .int mi, .int sn, .ref aHs, .int (nI n), .ref aWk, .int (nI wz), .ref aBk, .int (nI bz), .ref aFc])), (aHs, .inl (cHs, 8, .inr (.inr (.inr (.inr fHs))))), (bo, .inr (1, [.int mdc9_108, .ref aEl, .int (nI sz_9_109)])), (aEl, .inl (cEl, 10, .inr (.inr (.inr (.inr fEl9_110)))))]) [0, 1, 2, 3, 4] (by decide) rfl
        have hK9 := hK.sub (tys' := [(cHs, .object "MistHeaps$Heap"), (cEl, .object "java/lang/Object")]) [0, 1] rfl
        refine W.widen (k := 1) (n := 10) (by omega) (by omega) ?_
        exact W.iret (v := r_106) hx hb hr (fun tQ htQ hWQ => ⟨⟨r_106, (mdc9_108, sz_9_109, fEl9_110), rfl, ⟨by omega, hL_112⟩, by rw [htQ]; exact hP9, va_K.moved hWQ.alike hK9, hD9⟩, hS.F htQ⟩) hS.2.2 dX11_act_73
    by_cases c_12_2 : y = 2
    · skip
      refine lv_tableIn (tgt := 74) hx hb dX11_act_25 (by rw [c_12_2]; decide) (by rw [c_12_2]; decide) (by rw [c_12_2]; rfl) (by decide) ?_
      refine lv_aload hx hb dX11_act_74 (lv_at hl 0 rfl) ?_
      refine lv_iload_n hx hb dX11_act_76 rfl (lv_at hl 4 rfl) ?_
      refine lv_aload_n hx hb dX11_act_77 rfl (lv_at hl 1 rfl) ?_
      refine va_get (D := (dC, dI)) (ci := 13) (v := .ref bo) (C := RX11) (T := TX11) (N := 7) hx hb hts kc_xAct1_0 hown hK hP 0 rfl rfl 6 (by decide) (hts (.fieldLink RX11 49 "MistHeaps" "bodies" "Ljava/util/ArrayList;") kc_xAct1_1) (fun _ h9 => h9) rfl dX11_act_78 ?_
      rcases (show yi j_8 = 3 ∨ yi j_8 = 5 ∨ yi j_8 = 6 ∨ yi j_8 = 8 ∨ yi j_8 = 9 ∨ yi j_8 = 11 ∨ yi j_8 = 12 from (hH_ j_8 (by omega)).1) with e_113 | e_113 | e_113 | e_113 | e_113 | e_113 | e_113
      · skip
        have hY : Fz dC dI [((ya j_8), .inr (3, [.int (yk j_8), .int (nI j_8), .int (yv j_8), .int (yc j_8)]))] [] A s := by have h9 := (hH_ j_8 (by omega)).2; rw [hpE, e_113] at h9; exact h9
        have hPc := hP.sub (ws' := [(bo, .inr (1, [.int mdc9_3, .ref aEl, .int (nI 0)])), (aEl, .inl (cEl, 10, .inr (.inr (.inr (.inr fEl9_5)))))]) [3, 4] rfl
        have hDc := hD.sub (ws' := [(bo, .inr (1, [.int mdc9_3, .ref aEl, .int (nI 0)])), (aEl, .inl (cEl, 10, .inr (.inr (.inr (.inr fEl9_5)))))]) [3, 4] (by decide) rfl
        have hKc := hK.sub (tys' := [(cEl, .object "java/lang/Object")]) [1] rfl
        have hFc := va_free (wc := [(bo, .inr (1, [.int mdc9_3, .ref aEl, .int (nI 0)])), (aEl, .inl (cEl, 10, .inr (.inr (.inr (.inr fEl9_5)))))]) hD hS hA [3, 4] rfl
        refine va_calli (va_runU (As := [.int z, .ref bo]) (rest := []) ⟨hx, hb, hml, hown, hts⟩ (c_X1_doLooks_X1_1 l dC dI ad cB bS    bo aEl j_8 (yk j_8) (yv j_8) (yc j_8) z cEl fEl9_5 (ya j_8) 0 mdc9_3 H.size (by omega) ((fun k0 h0 => absurd h0 (Nat.not_lt_zero k0)))) (va_cwO 2 hts gX11_act_X1_doLooks_u240X1 rfl rfl rfl kc_xAct1_5 (by decide +kernel) ⟨Nat.le_of_ble_eq_true rfl, Nat.le_of_ble_eq_true rfl⟩) ⟨fun a U g mk q => by obtain ⟨q0, q1, qP, qK, qD, qhI_, qhB_, qhW_, qhZ⟩ := q; exact ⟨q0, q1, qP, va_K.moved (u := U) (U := U.calling g mk a) (Vm.Alike.refl U.vm) qK, qD, qhI_.same rfl rfl, qhB_.same rfl rfl, qhW_.same rfl rfl, qhZ.same rfl rfl⟩, va_recv hY.2.1 (hY.P hS) (ci := 3) (q0 := 0) rfl rfl, fun U hU hW => ⟨rfl, by rw [hU], by rw [hU]; exact hPc, va_K.moved hW.alike hKc, hDc.weaken (fun _ _ _ _ => trivial), hI_.call hS hU hW (fun q h => hFc q h), hB_.call hS hU hW (fun q h => hFc q h), hW_.call hS hU hW (fun q h => hFc q h), hY.call hS hU hW (fun q h => hFc q h)⟩⟩ rfl rfl hl.1 rfl (lv_room (Nat.le_of_ble_eq_true rfl)) dX11_act_81 ⟨Nat.le_of_ble_eq_true rfl, Nat.le_of_ble_eq_true rfl⟩) hS (fun q _ h => hFc q h) hFc (fun r_114 u tC H1 locs htC hvm hw_115 hB hz1 hk1 hS => ?_)
        obtain ⟨mdc9_116, sz_9_117, fEl9_118⟩ := u
        try dsimp only at hw_115 hB
        obtain ⟨hP1, hK1, hD1⟩ := hB
        rw [htC] at hP1
        have hK1 := va_K.moved hvm.symm hK1
        obtain ⟨hP, hD⟩ := va_join (wr := [(h0, .inr (13, [.ref sc, .ref kp, .int ik, .ref bl, .ref go, .ref ch, .ref bo])), (sc, .inr (10, [.ref aTp, .int (nI ts), .ref aHl, .int (nI nh), .long ed, .int mi, .int sn, .ref aHs, .int (nI n), .ref aWk, .int (nI wz), .ref aBk, .int (nI bz), .ref aFc])), (aHs, .inl (cHs, 8, .inr (.inr (.inr (.inr fHs)))))]) (w1 := [(bo, .inr (1, [.int mdc9_116, .ref aEl, .int (nI sz_9_117)])), (aEl, .inl (cEl, 10, .inr (.inr (.inr (.inr fEl9_118)))))]) hP hD [3, 4] [0, 1, 2] rfl rfl (by decide) (by decide) hk1 hFc hP1 hD1
        have hK := (hK.sub (tys' := [(cHs, .object "MistHeaps$Heap")]) [0] rfl).app hK1
        generalize H1 = H at hP hS ⊢
        have hP : va_P (dC, dI) vwCl [(h0, .inr (13, [.ref sc, .ref kp, .int ik, .ref bl, .ref go, .ref ch, .ref bo])), (sc, .inr (10, [.ref aTp, .int (nI ts), .ref aHl, .int (nI nh), .long ed, .int mi, .int sn, .ref aHs, .int (nI n), .ref aWk, .int (nI wz), .ref aBk, .int (nI bz), .ref aFc])), (aHs, .inl (cHs, 8, .inr (.inr (.inr (.inr fHs))))), (bo, .inr (1, [.int mdc9_116, .ref aEl, .int (nI sz_9_117)])), (aEl, .inl (cEl, 10, .inr (.inr (.inr (.inr fEl9_118)))))] H := hP
        have hD : va_D A [(h0, .inr (13, [.ref sc, .ref kp, .int ik, .ref bl, .ref go, .ref ch, .ref bo])), (sc, .inr (10, [.ref aTp, .int (nI ts), .ref aHl, .int (nI nh), .long ed, .int mi, .int sn, .ref aHs, .int (nI n), .ref aWk, .int (nI wz), .ref aBk, .int (nI bz), .ref aFc])), (aHs, .inl (cHs, 8, .inr (.inr (.inr (.inr fHs))))), (bo, .inr (1, [.int mdc9_116, .ref aEl, .int (nI sz_9_117)])), (aEl, .inl (cEl, 10, .inr (.inr (.inr (.inr fEl9_118)))))] := hD
        have hK : va_K (dC, dI) vwCl [(cHs, .object "MistHeaps$Heap"), (cEl, .object "java/lang/Object")] s := hK
        obtain ⟨h_119, hL_120⟩ := hw_115
        rw [hQ]
        have hP9 := hP.sub (ws' := [(h0, .inr (13, [.ref sc, .ref kp, .int ik, .ref bl, .ref go, .ref ch, .ref bo])), (sc, .inr (10, [.ref aTp, .int (nI ts), .ref aHl, .int (nI nh), .long ed, .int mi, .int sn, .ref aHs, .int (nI n), .ref aWk, .int (nI wz), .ref aBk, .int (nI bz), .ref aFc])), (aHs, .inl (cHs, 8, .inr (.inr (.inr (.inr fHs))))), (bo, .inr (1, [.int mdc9_116, .ref aEl, .int (nI sz_9_117)])), (aEl, .inl (cEl, 10, .inr (.inr (.inr (.inr fEl9_118)))))]) [0, 1, 2, 3, 4] rfl
        have hD9 := hD.sub (ws' := [(h0, .inr (13, [.ref sc, .ref kp, .int ik, .ref bl, .ref go, .ref ch, .ref bo])), (sc, .inr (10, [.ref aTp, .int (nI ts), .ref aHl, .int (nI nh), .long ed, .int mi, .int sn, .ref aHs, .int (nI n), .ref aWk, .int (nI wz), .ref aBk, .int (nI bz), .ref aFc])), (aHs, .inl (cHs, 8, .inr (.inr (.inr (.inr fHs))))), (bo, .inr (1, [.int mdc9_116, .ref aEl, .int (nI sz_9_117)])), (aEl, .inl (cEl, 10, .inr (.inr (.inr (.inr fEl9_118)))))]) [0, 1, 2, 3, 4] (by decide) rfl
        have hK9 := hK.sub (tys' := [(cHs, .object "MistHeaps$Heap"), (cEl, .object "java/lang/Object")]) [0, 1] rfl
        refine W.widen (k := 1) (n := 10) (by omega) (by omega) ?_
        exact W.iret (v := r_114) hx hb hr (fun tQ htQ hWQ => ⟨⟨r_114, (mdc9_116, sz_9_117, fEl9_118), rfl, ⟨by omega, hL_120⟩, by rw [htQ]; exact hP9, va_K.moved hWQ.alike hK9, hD9⟩, hS.F htQ⟩) hS.2.2 dX11_act_84
      · skip
        have hY : Fz dC dI [((ya j_8), .inr (5, [.int (yk j_8), .int (nI j_8), .int (yv j_8), .int (yc j_8)]))] [] A s := by have h9 := (hH_ j_8 (by omega)).2; rw [hpE, e_113] at h9; exact h9
        have hPc := hP.sub (ws' := [(bo, .inr (1, [.int mdc9_3, .ref aEl, .int (nI 0)])), (aEl, .inl (cEl, 10, .inr (.inr (.inr (.inr fEl9_5)))))]) [3, 4] rfl
        have hDc := hD.sub (ws' := [(bo, .inr (1, [.int mdc9_3, .ref aEl, .int (nI 0)])), (aEl, .inl (cEl, 10, .inr (.inr (.inr (.inr fEl9_5)))))]) [3, 4] (by decide) rfl
        have hKc := hK.sub (tys' := [(cEl, .object "java/lang/Object")]) [1] rfl
        have hFc := va_free (wc := [(bo, .inr (1, [.int mdc9_3, .ref aEl, .int (nI 0)])), (aEl, .inl (cEl, 10, .inr (.inr (.inr (.inr fEl9_5)))))]) hD hS hA [3, 4] rfl
        refine va_calli (va_runV (As := [.int z, .ref bo]) (rest := []) ⟨hx, hb, hml, hown, hts⟩ (c_X3_doLooks_X3_1 l dC dI ad cB bS    bo aEl j_8 (yk j_8) (yv j_8) (yc j_8) z cEl fEl9_5 (ya j_8) 0 mdc9_3 H.size (by omega) ((fun k0 h0 => absurd h0 (Nat.not_lt_zero k0)))) (cwV 2 hts gX11_act_X3_doLooks rfl rfl rfl (by decide +kernel) ⟨Nat.le_of_ble_eq_true rfl, Nat.le_of_ble_eq_true rfl⟩) ⟨fun a U g mk q => by obtain ⟨q0, q1, qP, qK, qD, qhI_, qhB_, qhW_, qhZ⟩ := q; exact ⟨q0, q1, qP, va_K.moved (u := U) (U := U.calling g mk a) (Vm.Alike.refl U.vm) qK, qD, qhI_.same rfl rfl, qhB_.same rfl rfl, qhW_.same rfl rfl, qhZ.same rfl rfl⟩, va_recv hY.2.1 (hY.P hS) (ci := 5) (q0 := 0) rfl rfl, fun U hU hW => ⟨rfl, by rw [hU], by rw [hU]; exact hPc, va_K.moved hW.alike hKc, hDc.weaken (fun _ _ _ _ => trivial), hI_.call hS hU hW (fun q h => hFc q h), hB_.call hS hU hW (fun q h => hFc q h), hW_.call hS hU hW (fun q h => hFc q h), hY.call hS hU hW (fun q h => hFc q h)⟩⟩ rfl rfl hl.1 rfl (lv_room (Nat.le_of_ble_eq_true rfl)) dX11_act_81 ⟨Nat.le_of_ble_eq_true rfl, Nat.le_of_ble_eq_true rfl⟩) hS (fun q _ h => hFc q h) hFc (fun r_121 u tC H1 locs htC hvm hw_122 hB hz1 hk1 hS => ?_)
        obtain ⟨mdc9_123, sz_9_124, fEl9_125⟩ := u
        try dsimp only at hw_122 hB
        obtain ⟨hP1, hK1, hD1⟩ := hB
        rw [htC] at hP1
        have hK1 := va_K.moved hvm.symm hK1
        obtain ⟨hP, hD⟩ := va_join (wr := [(h0, .inr (13, [.ref sc, .ref kp, .int ik, .ref bl, .ref go, .ref ch, .ref bo])), (sc, .inr (10, [.ref aTp, .int (nI ts), .ref aHl, .int (nI nh), .long ed, .int mi, .int sn, .ref aHs, .int (nI n), .ref aWk, .int (nI wz), .ref aBk, .int (nI bz), .ref aFc])), (aHs, .inl (cHs, 8, .inr (.inr (.inr (.inr fHs)))))]) (w1 := [(bo, .inr (1, [.int mdc9_123, .ref aEl, .int (nI sz_9_124)])), (aEl, .inl (cEl, 10, .inr (.inr (.inr (.inr fEl9_125)))))]) hP hD [3, 4] [0, 1, 2] rfl rfl (by decide) (by decide) hk1 hFc hP1 hD1
        have hK := (hK.sub (tys' := [(cHs, .object "MistHeaps$Heap")]) [0] rfl).app hK1
        generalize H1 = H at hP hS ⊢
        have hP : va_P (dC, dI) vwCl [(h0, .inr (13, [.ref sc, .ref kp, .int ik, .ref bl, .ref go, .ref ch, .ref bo])), (sc, .inr (10, [.ref aTp, .int (nI ts), .ref aHl, .int (nI nh), .long ed, .int mi, .int sn, .ref aHs, .int (nI n), .ref aWk, .int (nI wz), .ref aBk, .int (nI bz), .ref aFc])), (aHs, .inl (cHs, 8, .inr (.inr (.inr (.inr fHs))))), (bo, .inr (1, [.int mdc9_123, .ref aEl, .int (nI sz_9_124)])), (aEl, .inl (cEl, 10, .inr (.inr (.inr (.inr fEl9_125)))))] H := hP
        have hD : va_D A [(h0, .inr (13, [.ref sc, .ref kp, .int ik, .ref bl, .ref go, .ref ch, .ref bo])), (sc, .inr (10, [.ref aTp, .int (nI ts), .ref aHl, .int (nI nh), .long ed, .int mi, .int sn, .ref aHs, .int (nI n), .ref aWk, .int (nI wz), .ref aBk, .int (nI bz), .ref aFc])), (aHs, .inl (cHs, 8, .inr (.inr (.inr (.inr fHs))))), (bo, .inr (1, [.int mdc9_123, .ref aEl, .int (nI sz_9_124)])), (aEl, .inl (cEl, 10, .inr (.inr (.inr (.inr fEl9_125)))))] := hD
        have hK : va_K (dC, dI) vwCl [(cHs, .object "MistHeaps$Heap"), (cEl, .object "java/lang/Object")] s := hK
        obtain ⟨h_126, hL_127⟩ := hw_122
        rw [hQ]
        have hP9 := hP.sub (ws' := [(h0, .inr (13, [.ref sc, .ref kp, .int ik, .ref bl, .ref go, .ref ch, .ref bo])), (sc, .inr (10, [.ref aTp, .int (nI ts), .ref aHl, .int (nI nh), .long ed, .int mi, .int sn, .ref aHs, .int (nI n), .ref aWk, .int (nI wz), .ref aBk, .int (nI bz), .ref aFc])), (aHs, .inl (cHs, 8, .inr (.inr (.inr (.inr fHs))))), (bo, .inr (1, [.int mdc9_123, .ref aEl, .int (nI sz_9_124)])), (aEl, .inl (cEl, 10, .inr (.inr (.inr (.inr fEl9_125)))))]) [0, 1, 2, 3, 4] rfl
        have hD9 := hD.sub (ws' := [(h0, .inr (13, [.ref sc, .ref kp, .int ik, .ref bl, .ref go, .ref ch, .ref bo])), (sc, .inr (10, [.ref aTp, .int (nI ts), .ref aHl, .int (nI nh), .long ed, .int mi, .int sn, .ref aHs, .int (nI n), .ref aWk, .int (nI wz), .ref aBk, .int (nI bz), .ref aFc])), (aHs, .inl (cHs, 8, .inr (.inr (.inr (.inr fHs))))), (bo, .inr (1, [.int mdc9_123, .ref aEl, .int (nI sz_9_124)])), (aEl, .inl (cEl, 10, .inr (.inr (.inr (.inr fEl9_125)))))]) [0, 1, 2, 3, 4] (by decide) rfl
        have hK9 := hK.sub (tys' := [(cHs, .object "MistHeaps$Heap"), (cEl, .object "java/lang/Object")]) [0, 1] rfl
        refine W.widen (k := 1) (n := 10) (by omega) (by omega) ?_
        exact W.iret (v := r_121) hx hb hr (fun tQ htQ hWQ => ⟨⟨r_121, (mdc9_123, sz_9_124, fEl9_125), rfl, ⟨by omega, hL_127⟩, by rw [htQ]; exact hP9, va_K.moved hWQ.alike hK9, hD9⟩, hS.F htQ⟩) hS.2.2 dX11_act_84
      · skip
        have hY : Fz dC dI [((ya j_8), .inr (6, [.int (yk j_8), .int (nI j_8), .int (yv j_8), .int (yc j_8)]))] [] A s := by have h9 := (hH_ j_8 (by omega)).2; rw [hpE, e_113] at h9; exact h9
        have hPc := hP.sub (ws' := [(bo, .inr (1, [.int mdc9_3, .ref aEl, .int (nI 0)])), (aEl, .inl (cEl, 10, .inr (.inr (.inr (.inr fEl9_5)))))]) [3, 4] rfl
        have hDc := hD.sub (ws' := [(bo, .inr (1, [.int mdc9_3, .ref aEl, .int (nI 0)])), (aEl, .inl (cEl, 10, .inr (.inr (.inr (.inr fEl9_5)))))]) [3, 4] (by decide) rfl
        have hKc := hK.sub (tys' := [(cEl, .object "java/lang/Object")]) [1] rfl
        have hFc := va_free (wc := [(bo, .inr (1, [.int mdc9_3, .ref aEl, .int (nI 0)])), (aEl, .inl (cEl, 10, .inr (.inr (.inr (.inr fEl9_5)))))]) hD hS hA [3, 4] rfl
        refine va_calli (va_runU (As := [.int z, .ref bo]) (rest := []) ⟨hx, hb, hml, hown, hts⟩ (c_X3_doLooks_X4_1 l dC dI ad cB bS    bo aEl j_8 (yk j_8) (yv j_8) (yc j_8) z cEl fEl9_5 (ya j_8) 0 mdc9_3 H.size (by omega) ((fun k0 h0 => absurd h0 (Nat.not_lt_zero k0)))) (va_cwU 2 hts gX11_act_X3_doLooks_u240X4 rfl rfl rfl rfl (by decide +kernel) ⟨Nat.le_of_ble_eq_true rfl, Nat.le_of_ble_eq_true rfl⟩) ⟨fun a U g mk q => by obtain ⟨q0, q1, qP, qK, qD, qhI_, qhB_, qhW_, qhZ⟩ := q; exact ⟨q0, q1, qP, va_K.moved (u := U) (U := U.calling g mk a) (Vm.Alike.refl U.vm) qK, qD, qhI_.same rfl rfl, qhB_.same rfl rfl, qhW_.same rfl rfl, qhZ.same rfl rfl⟩, va_recv hY.2.1 (hY.P hS) (ci := 6) (q0 := 0) rfl rfl, fun U hU hW => ⟨rfl, by rw [hU], by rw [hU]; exact hPc, va_K.moved hW.alike hKc, hDc.weaken (fun _ _ _ _ => trivial), hI_.call hS hU hW (fun q h => hFc q h), hB_.call hS hU hW (fun q h => hFc q h), hW_.call hS hU hW (fun q h => hFc q h), hY.call hS hU hW (fun q h => hFc q h)⟩⟩ rfl rfl hl.1 rfl (lv_room (Nat.le_of_ble_eq_true rfl)) dX11_act_81 ⟨Nat.le_of_ble_eq_true rfl, Nat.le_of_ble_eq_true rfl⟩) hS (fun q _ h => hFc q h) hFc (fun r_128 u tC H1 locs htC hvm hw_129 hB hz1 hk1 hS => ?_)
        obtain ⟨mdc9_130, sz_9_131, fEl9_132⟩ := u
        try dsimp only at hw_129 hB
        obtain ⟨hP1, hK1, hD1⟩ := hB
        rw [htC] at hP1
        have hK1 := va_K.moved hvm.symm hK1
        obtain ⟨hP, hD⟩ := va_join (wr := [(h0, .inr (13, [.ref sc, .ref kp, .int ik, .ref bl, .ref go, .ref ch, .ref bo])), (sc, .inr (10, [.ref aTp, .int (nI ts), .ref aHl, .int (nI nh), .long ed, .int mi, .int sn, .ref aHs, .int (nI n), .ref aWk, .int (nI wz), .ref aBk, .int (nI bz), .ref aFc])), (aHs, .inl (cHs, 8, .inr (.inr (.inr (.inr fHs)))))]) (w1 := [(bo, .inr (1, [.int mdc9_130, .ref aEl, .int (nI sz_9_131)])), (aEl, .inl (cEl, 10, .inr (.inr (.inr (.inr fEl9_132)))))]) hP hD [3, 4] [0, 1, 2] rfl rfl (by decide) (by decide) hk1 hFc hP1 hD1
        have hK := (hK.sub (tys' := [(cHs, .object "MistHeaps$Heap")]) [0] rfl).app hK1
        generalize H1 = H at hP hS ⊢
        have hP : va_P (dC, dI) vwCl [(h0, .inr (13, [.ref sc, .ref kp, .int ik, .ref bl, .ref go, .ref ch, .ref bo])), (sc, .inr (10, [.ref aTp, .int (nI ts), .ref aHl, .int (nI nh), .long ed, .int mi, .int sn, .ref aHs, .int (nI n), .ref aWk, .int (nI wz), .ref aBk, .int (nI bz), .ref aFc])), (aHs, .inl (cHs, 8, .inr (.inr (.inr (.inr fHs))))), (bo, .inr (1, [.int mdc9_130, .ref aEl, .int (nI sz_9_131)])), (aEl, .inl (cEl, 10, .inr (.inr (.inr (.inr fEl9_132)))))] H := hP
        have hD : va_D A [(h0, .inr (13, [.ref sc, .ref kp, .int ik, .ref bl, .ref go, .ref ch, .ref bo])), (sc, .inr (10, [.ref aTp, .int (nI ts), .ref aHl, .int (nI nh), .long ed, .int mi, .int sn, .ref aHs, .int (nI n), .ref aWk, .int (nI wz), .ref aBk, .int (nI bz), .ref aFc])), (aHs, .inl (cHs, 8, .inr (.inr (.inr (.inr fHs))))), (bo, .inr (1, [.int mdc9_130, .ref aEl, .int (nI sz_9_131)])), (aEl, .inl (cEl, 10, .inr (.inr (.inr (.inr fEl9_132)))))] := hD
        have hK : va_K (dC, dI) vwCl [(cHs, .object "MistHeaps$Heap"), (cEl, .object "java/lang/Object")] s := hK
        obtain ⟨h_133, hL_134⟩ := hw_129
        rw [hQ]
        have hP9 := hP.sub (ws' := [(h0, .inr (13, [.ref sc, .ref kp, .int ik, .ref bl, .ref go, .ref ch, .ref bo])), (sc, .inr (10, [.ref aTp, .int (nI ts), .ref aHl, .int (nI nh), .long ed, .int mi, .int sn, .ref aHs, .int (nI n), .ref aWk, .int (nI wz), .ref aBk, .int (nI bz), .ref aFc])), (aHs, .inl (cHs, 8, .inr (.inr (.inr (.inr fHs))))), (bo, .inr (1, [.int mdc9_130, .ref aEl, .int (nI sz_9_131)])), (aEl, .inl (cEl, 10, .inr (.inr (.inr (.inr fEl9_132)))))]) [0, 1, 2, 3, 4] rfl
        have hD9 := hD.sub (ws' := [(h0, .inr (13, [.ref sc, .ref kp, .int ik, .ref bl, .ref go, .ref ch, .ref bo])), (sc, .inr (10, [.ref aTp, .int (nI ts), .ref aHl, .int (nI nh), .long ed, .int mi, .int sn, .ref aHs, .int (nI n), .ref aWk, .int (nI wz), .ref aBk, .int (nI bz), .ref aFc])), (aHs, .inl (cHs, 8, .inr (.inr (.inr (.inr fHs))))), (bo, .inr (1, [.int mdc9_130, .ref aEl, .int (nI sz_9_131)])), (aEl, .inl (cEl, 10, .inr (.inr (.inr (.inr fEl9_132)))))]) [0, 1, 2, 3, 4] (by decide) rfl
        have hK9 := hK.sub (tys' := [(cHs, .object "MistHeaps$Heap"), (cEl, .object "java/lang/Object")]) [0, 1] rfl
        refine W.widen (k := 1) (n := 10) (by omega) (by omega) ?_
        exact W.iret (v := r_128) hx hb hr (fun tQ htQ hWQ => ⟨⟨r_128, (mdc9_130, sz_9_131, fEl9_132), rfl, ⟨by omega, hL_134⟩, by rw [htQ]; exact hP9, va_K.moved hWQ.alike hK9, hD9⟩, hS.F htQ⟩) hS.2.2 dX11_act_84
      · skip
        have hY : Fz dC dI [((ya j_8), .inr (8, [.int (yk j_8), .int (nI j_8), .int (yv j_8), .int (yc j_8)]))] [] A s := by have h9 := (hH_ j_8 (by omega)).2; rw [hpE, e_113] at h9; exact h9
        have hPc := hP.sub (ws' := [(bo, .inr (1, [.int mdc9_3, .ref aEl, .int (nI 0)])), (aEl, .inl (cEl, 10, .inr (.inr (.inr (.inr fEl9_5)))))]) [3, 4] rfl
        have hDc := hD.sub (ws' := [(bo, .inr (1, [.int mdc9_3, .ref aEl, .int (nI 0)])), (aEl, .inl (cEl, 10, .inr (.inr (.inr (.inr fEl9_5)))))]) [3, 4] (by decide) rfl
        have hKc := hK.sub (tys' := [(cEl, .object "java/lang/Object")]) [1] rfl
        have hFc := va_free (wc := [(bo, .inr (1, [.int mdc9_3, .ref aEl, .int (nI 0)])), (aEl, .inl (cEl, 10, .inr (.inr (.inr (.inr fEl9_5)))))]) hD hS hA [3, 4] rfl
        refine va_calli (va_runU (As := [.int z, .ref bo]) (rest := []) ⟨hx, hb, hml, hown, hts⟩ (c_X3_doLooks_X6_1 l dC dI ad cB bS    bo aEl j_8 (yk j_8) (yv j_8) (yc j_8) z cEl fEl9_5 (ya j_8) 0 mdc9_3 H.size (by omega) ((fun k0 h0 => absurd h0 (Nat.not_lt_zero k0)))) (va_cwU 2 hts gX11_act_X3_doLooks_u240X6 rfl rfl rfl rfl (by decide +kernel) ⟨Nat.le_of_ble_eq_true rfl, Nat.le_of_ble_eq_true rfl⟩) ⟨fun a U g mk q => by obtain ⟨q0, q1, qP, qK, qD, qhI_, qhB_, qhW_, qhZ⟩ := q; exact ⟨q0, q1, qP, va_K.moved (u := U) (U := U.calling g mk a) (Vm.Alike.refl U.vm) qK, qD, qhI_.same rfl rfl, qhB_.same rfl rfl, qhW_.same rfl rfl, qhZ.same rfl rfl⟩, va_recv hY.2.1 (hY.P hS) (ci := 8) (q0 := 0) rfl rfl, fun U hU hW => ⟨rfl, by rw [hU], by rw [hU]; exact hPc, va_K.moved hW.alike hKc, hDc.weaken (fun _ _ _ _ => trivial), hI_.call hS hU hW (fun q h => hFc q h), hB_.call hS hU hW (fun q h => hFc q h), hW_.call hS hU hW (fun q h => hFc q h), hY.call hS hU hW (fun q h => hFc q h)⟩⟩ rfl rfl hl.1 rfl (lv_room (Nat.le_of_ble_eq_true rfl)) dX11_act_81 ⟨Nat.le_of_ble_eq_true rfl, Nat.le_of_ble_eq_true rfl⟩) hS (fun q _ h => hFc q h) hFc (fun r_135 u tC H1 locs htC hvm hw_136 hB hz1 hk1 hS => ?_)
        obtain ⟨mdc9_137, sz_9_138, fEl9_139⟩ := u
        try dsimp only at hw_136 hB
        obtain ⟨hP1, hK1, hD1⟩ := hB
        rw [htC] at hP1
        have hK1 := va_K.moved hvm.symm hK1
        obtain ⟨hP, hD⟩ := va_join (wr := [(h0, .inr (13, [.ref sc, .ref kp, .int ik, .ref bl, .ref go, .ref ch, .ref bo])), (sc, .inr (10, [.ref aTp, .int (nI ts), .ref aHl, .int (nI nh), .long ed, .int mi, .int sn, .ref aHs, .int (nI n), .ref aWk, .int (nI wz), .ref aBk, .int (nI bz), .ref aFc])), (aHs, .inl (cHs, 8, .inr (.inr (.inr (.inr fHs)))))]) (w1 := [(bo, .inr (1, [.int mdc9_137, .ref aEl, .int (nI sz_9_138)])), (aEl, .inl (cEl, 10, .inr (.inr (.inr (.inr fEl9_139)))))]) hP hD [3, 4] [0, 1, 2] rfl rfl (by decide) (by decide) hk1 hFc hP1 hD1
        have hK := (hK.sub (tys' := [(cHs, .object "MistHeaps$Heap")]) [0] rfl).app hK1
        generalize H1 = H at hP hS ⊢
        have hP : va_P (dC, dI) vwCl [(h0, .inr (13, [.ref sc, .ref kp, .int ik, .ref bl, .ref go, .ref ch, .ref bo])), (sc, .inr (10, [.ref aTp, .int (nI ts), .ref aHl, .int (nI nh), .long ed, .int mi, .int sn, .ref aHs, .int (nI n), .ref aWk, .int (nI wz), .ref aBk, .int (nI bz), .ref aFc])), (aHs, .inl (cHs, 8, .inr (.inr (.inr (.inr fHs))))), (bo, .inr (1, [.int mdc9_137, .ref aEl, .int (nI sz_9_138)])), (aEl, .inl (cEl, 10, .inr (.inr (.inr (.inr fEl9_139)))))] H := hP
        have hD : va_D A [(h0, .inr (13, [.ref sc, .ref kp, .int ik, .ref bl, .ref go, .ref ch, .ref bo])), (sc, .inr (10, [.ref aTp, .int (nI ts), .ref aHl, .int (nI nh), .long ed, .int mi, .int sn, .ref aHs, .int (nI n), .ref aWk, .int (nI wz), .ref aBk, .int (nI bz), .ref aFc])), (aHs, .inl (cHs, 8, .inr (.inr (.inr (.inr fHs))))), (bo, .inr (1, [.int mdc9_137, .ref aEl, .int (nI sz_9_138)])), (aEl, .inl (cEl, 10, .inr (.inr (.inr (.inr fEl9_139)))))] := hD
        have hK : va_K (dC, dI) vwCl [(cHs, .object "MistHeaps$Heap"), (cEl, .object "java/lang/Object")] s := hK
        obtain ⟨h_140, hL_141⟩ := hw_136
        rw [hQ]
        have hP9 := hP.sub (ws' := [(h0, .inr (13, [.ref sc, .ref kp, .int ik, .ref bl, .ref go, .ref ch, .ref bo])), (sc, .inr (10, [.ref aTp, .int (nI ts), .ref aHl, .int (nI nh), .long ed, .int mi, .int sn, .ref aHs, .int (nI n), .ref aWk, .int (nI wz), .ref aBk, .int (nI bz), .ref aFc])), (aHs, .inl (cHs, 8, .inr (.inr (.inr (.inr fHs))))), (bo, .inr (1, [.int mdc9_137, .ref aEl, .int (nI sz_9_138)])), (aEl, .inl (cEl, 10, .inr (.inr (.inr (.inr fEl9_139)))))]) [0, 1, 2, 3, 4] rfl
        have hD9 := hD.sub (ws' := [(h0, .inr (13, [.ref sc, .ref kp, .int ik, .ref bl, .ref go, .ref ch, .ref bo])), (sc, .inr (10, [.ref aTp, .int (nI ts), .ref aHl, .int (nI nh), .long ed, .int mi, .int sn, .ref aHs, .int (nI n), .ref aWk, .int (nI wz), .ref aBk, .int (nI bz), .ref aFc])), (aHs, .inl (cHs, 8, .inr (.inr (.inr (.inr fHs))))), (bo, .inr (1, [.int mdc9_137, .ref aEl, .int (nI sz_9_138)])), (aEl, .inl (cEl, 10, .inr (.inr (.inr (.inr fEl9_139)))))]) [0, 1, 2, 3, 4] (by decide) rfl
        have hK9 := hK.sub (tys' := [(cHs, .object "MistHeaps$Heap"), (cEl, .object "java/lang/Object")]) [0, 1] rfl
        refine W.widen (k := 1) (n := 10) (by omega) (by omega) ?_
        exact W.iret (v := r_135) hx hb hr (fun tQ htQ hWQ => ⟨⟨r_135, (mdc9_137, sz_9_138, fEl9_139), rfl, ⟨by omega, hL_141⟩, by rw [htQ]; exact hP9, va_K.moved hWQ.alike hK9, hD9⟩, hS.F htQ⟩) hS.2.2 dX11_act_84
      · skip
        have hY : Fz dC dI [((ya j_8), .inr (9, [.int (yk j_8), .int (nI j_8), .int (yv j_8), .int (yc j_8)]))] [] A s := by have h9 := (hH_ j_8 (by omega)).2; rw [hpE, e_113] at h9; exact h9
        have hPc := hP.sub (ws' := [(bo, .inr (1, [.int mdc9_3, .ref aEl, .int (nI 0)])), (aEl, .inl (cEl, 10, .inr (.inr (.inr (.inr fEl9_5)))))]) [3, 4] rfl
        have hDc := hD.sub (ws' := [(bo, .inr (1, [.int mdc9_3, .ref aEl, .int (nI 0)])), (aEl, .inl (cEl, 10, .inr (.inr (.inr (.inr fEl9_5)))))]) [3, 4] (by decide) rfl
        have hKc := hK.sub (tys' := [(cEl, .object "java/lang/Object")]) [1] rfl
        have hFc := va_free (wc := [(bo, .inr (1, [.int mdc9_3, .ref aEl, .int (nI 0)])), (aEl, .inl (cEl, 10, .inr (.inr (.inr (.inr fEl9_5)))))]) hD hS hA [3, 4] rfl
        refine va_calli (va_runU (As := [.int z, .ref bo]) (rest := []) ⟨hx, hb, hml, hown, hts⟩ (c_X1_doLooks_X7_1 l dC dI ad cB bS    bo aEl j_8 (yk j_8) (yv j_8) (yc j_8) z cEl fEl9_5 (ya j_8) 0 mdc9_3 H.size (by omega) ((fun k0 h0 => absurd h0 (Nat.not_lt_zero k0)))) (va_cwO 2 hts gX11_act_X1_doLooks_u240X7 rfl rfl rfl kc_xAct1_5 (by decide +kernel) ⟨Nat.le_of_ble_eq_true rfl, Nat.le_of_ble_eq_true rfl⟩) ⟨fun a U g mk q => by obtain ⟨q0, q1, qP, qK, qD, qhI_, qhB_, qhW_, qhZ⟩ := q; exact ⟨q0, q1, qP, va_K.moved (u := U) (U := U.calling g mk a) (Vm.Alike.refl U.vm) qK, qD, qhI_.same rfl rfl, qhB_.same rfl rfl, qhW_.same rfl rfl, qhZ.same rfl rfl⟩, va_recv hY.2.1 (hY.P hS) (ci := 9) (q0 := 0) rfl rfl, fun U hU hW => ⟨rfl, by rw [hU], by rw [hU]; exact hPc, va_K.moved hW.alike hKc, hDc.weaken (fun _ _ _ _ => trivial), hI_.call hS hU hW (fun q h => hFc q h), hB_.call hS hU hW (fun q h => hFc q h), hW_.call hS hU hW (fun q h => hFc q h), hY.call hS hU hW (fun q h => hFc q h)⟩⟩ rfl rfl hl.1 rfl (lv_room (Nat.le_of_ble_eq_true rfl)) dX11_act_81 ⟨Nat.le_of_ble_eq_true rfl, Nat.le_of_ble_eq_true rfl⟩) hS (fun q _ h => hFc q h) hFc (fun r_142 u tC H1 locs htC hvm hw_143 hB hz1 hk1 hS => ?_)
        obtain ⟨mdc9_144, sz_9_145, fEl9_146⟩ := u
        try dsimp only at hw_143 hB
        obtain ⟨hP1, hK1, hD1⟩ := hB
        rw [htC] at hP1
        have hK1 := va_K.moved hvm.symm hK1
        obtain ⟨hP, hD⟩ := va_join (wr := [(h0, .inr (13, [.ref sc, .ref kp, .int ik, .ref bl, .ref go, .ref ch, .ref bo])), (sc, .inr (10, [.ref aTp, .int (nI ts), .ref aHl, .int (nI nh), .long ed, .int mi, .int sn, .ref aHs, .int (nI n), .ref aWk, .int (nI wz), .ref aBk, .int (nI bz), .ref aFc])), (aHs, .inl (cHs, 8, .inr (.inr (.inr (.inr fHs)))))]) (w1 := [(bo, .inr (1, [.int mdc9_144, .ref aEl, .int (nI sz_9_145)])), (aEl, .inl (cEl, 10, .inr (.inr (.inr (.inr fEl9_146)))))]) hP hD [3, 4] [0, 1, 2] rfl rfl (by decide) (by decide) hk1 hFc hP1 hD1
        have hK := (hK.sub (tys' := [(cHs, .object "MistHeaps$Heap")]) [0] rfl).app hK1
        generalize H1 = H at hP hS ⊢
        have hP : va_P (dC, dI) vwCl [(h0, .inr (13, [.ref sc, .ref kp, .int ik, .ref bl, .ref go, .ref ch, .ref bo])), (sc, .inr (10, [.ref aTp, .int (nI ts), .ref aHl, .int (nI nh), .long ed, .int mi, .int sn, .ref aHs, .int (nI n), .ref aWk, .int (nI wz), .ref aBk, .int (nI bz), .ref aFc])), (aHs, .inl (cHs, 8, .inr (.inr (.inr (.inr fHs))))), (bo, .inr (1, [.int mdc9_144, .ref aEl, .int (nI sz_9_145)])), (aEl, .inl (cEl, 10, .inr (.inr (.inr (.inr fEl9_146)))))] H := hP
        have hD : va_D A [(h0, .inr (13, [.ref sc, .ref kp, .int ik, .ref bl, .ref go, .ref ch, .ref bo])), (sc, .inr (10, [.ref aTp, .int (nI ts), .ref aHl, .int (nI nh), .long ed, .int mi, .int sn, .ref aHs, .int (nI n), .ref aWk, .int (nI wz), .ref aBk, .int (nI bz), .ref aFc])), (aHs, .inl (cHs, 8, .inr (.inr (.inr (.inr fHs))))), (bo, .inr (1, [.int mdc9_144, .ref aEl, .int (nI sz_9_145)])), (aEl, .inl (cEl, 10, .inr (.inr (.inr (.inr fEl9_146)))))] := hD
        have hK : va_K (dC, dI) vwCl [(cHs, .object "MistHeaps$Heap"), (cEl, .object "java/lang/Object")] s := hK
        obtain ⟨h_147, hL_148⟩ := hw_143
        rw [hQ]
        have hP9 := hP.sub (ws' := [(h0, .inr (13, [.ref sc, .ref kp, .int ik, .ref bl, .ref go, .ref ch, .ref bo])), (sc, .inr (10, [.ref aTp, .int (nI ts), .ref aHl, .int (nI nh), .long ed, .int mi, .int sn, .ref aHs, .int (nI n), .ref aWk, .int (nI wz), .ref aBk, .int (nI bz), .ref aFc])), (aHs, .inl (cHs, 8, .inr (.inr (.inr (.inr fHs))))), (bo, .inr (1, [.int mdc9_144, .ref aEl, .int (nI sz_9_145)])), (aEl, .inl (cEl, 10, .inr (.inr (.inr (.inr fEl9_146)))))]) [0, 1, 2, 3, 4] rfl
        have hD9 := hD.sub (ws' := [(h0, .inr (13, [.ref sc, .ref kp, .int ik, .ref bl, .ref go, .ref ch, .ref bo])), (sc, .inr (10, [.ref aTp, .int (nI ts), .ref aHl, .int (nI nh), .long ed, .int mi, .int sn, .ref aHs, .int (nI n), .ref aWk, .int (nI wz), .ref aBk, .int (nI bz), .ref aFc])), (aHs, .inl (cHs, 8, .inr (.inr (.inr (.inr fHs))))), (bo, .inr (1, [.int mdc9_144, .ref aEl, .int (nI sz_9_145)])), (aEl, .inl (cEl, 10, .inr (.inr (.inr (.inr fEl9_146)))))]) [0, 1, 2, 3, 4] (by decide) rfl
        have hK9 := hK.sub (tys' := [(cHs, .object "MistHeaps$Heap"), (cEl, .object "java/lang/Object")]) [0, 1] rfl
        refine W.widen (k := 1) (n := 10) (by omega) (by omega) ?_
        exact W.iret (v := r_142) hx hb hr (fun tQ htQ hWQ => ⟨⟨r_142, (mdc9_144, sz_9_145, fEl9_146), rfl, ⟨by omega, hL_148⟩, by rw [htQ]; exact hP9, va_K.moved hWQ.alike hK9, hD9⟩, hS.F htQ⟩) hS.2.2 dX11_act_84
      · skip
        have hY : Fz dC dI [((ya j_8), .inr (11, [.int (yk j_8), .int (nI j_8), .int (yv j_8), .int (yc j_8)]))] [] A s := by have h9 := (hH_ j_8 (by omega)).2; rw [hpE, e_113] at h9; exact h9
        have hPc := hP.sub (ws' := [(bo, .inr (1, [.int mdc9_3, .ref aEl, .int (nI 0)])), (aEl, .inl (cEl, 10, .inr (.inr (.inr (.inr fEl9_5)))))]) [3, 4] rfl
        have hDc := hD.sub (ws' := [(bo, .inr (1, [.int mdc9_3, .ref aEl, .int (nI 0)])), (aEl, .inl (cEl, 10, .inr (.inr (.inr (.inr fEl9_5)))))]) [3, 4] (by decide) rfl
        have hKc := hK.sub (tys' := [(cEl, .object "java/lang/Object")]) [1] rfl
        have hFc := va_free (wc := [(bo, .inr (1, [.int mdc9_3, .ref aEl, .int (nI 0)])), (aEl, .inl (cEl, 10, .inr (.inr (.inr (.inr fEl9_5)))))]) hD hS hA [3, 4] rfl
        refine va_calli (va_runU (As := [.int z, .ref bo]) (rest := []) ⟨hx, hb, hml, hown, hts⟩ (c_X3_doLooks_X9_1 l dC dI ad cB bS    bo aEl j_8 (yk j_8) (yv j_8) (yc j_8) z cEl fEl9_5 (ya j_8) 0 mdc9_3 H.size (by omega) ((fun k0 h0 => absurd h0 (Nat.not_lt_zero k0)))) (va_cwU 2 hts gX11_act_X3_doLooks_u240X9 rfl rfl rfl rfl (by decide +kernel) ⟨Nat.le_of_ble_eq_true rfl, Nat.le_of_ble_eq_true rfl⟩) ⟨fun a U g mk q => by obtain ⟨q0, q1, qP, qK, qD, qhI_, qhB_, qhW_, qhZ⟩ := q; exact ⟨q0, q1, qP, va_K.moved (u := U) (U := U.calling g mk a) (Vm.Alike.refl U.vm) qK, qD, qhI_.same rfl rfl, qhB_.same rfl rfl, qhW_.same rfl rfl, qhZ.same rfl rfl⟩, va_recv hY.2.1 (hY.P hS) (ci := 11) (q0 := 0) rfl rfl, fun U hU hW => ⟨rfl, by rw [hU], by rw [hU]; exact hPc, va_K.moved hW.alike hKc, hDc.weaken (fun _ _ _ _ => trivial), hI_.call hS hU hW (fun q h => hFc q h), hB_.call hS hU hW (fun q h => hFc q h), hW_.call hS hU hW (fun q h => hFc q h), hY.call hS hU hW (fun q h => hFc q h)⟩⟩ rfl rfl hl.1 rfl (lv_room (Nat.le_of_ble_eq_true rfl)) dX11_act_81 ⟨Nat.le_of_ble_eq_true rfl, Nat.le_of_ble_eq_true rfl⟩) hS (fun q _ h => hFc q h) hFc (fun r_149 u tC H1 locs htC hvm hw_150 hB hz1 hk1 hS => ?_)
        obtain ⟨mdc9_151, sz_9_152, fEl9_153⟩ := u
        try dsimp only at hw_150 hB
        obtain ⟨hP1, hK1, hD1⟩ := hB
        rw [htC] at hP1
        have hK1 := va_K.moved hvm.symm hK1
        obtain ⟨hP, hD⟩ := va_join (wr := [(h0, .inr (13, [.ref sc, .ref kp, .int ik, .ref bl, .ref go, .ref ch, .ref bo])), (sc, .inr (10, [.ref aTp, .int (nI ts), .ref aHl, .int (nI nh), .long ed, .int mi, .int sn, .ref aHs, .int (nI n), .ref aWk, .int (nI wz), .ref aBk, .int (nI bz), .ref aFc])), (aHs, .inl (cHs, 8, .inr (.inr (.inr (.inr fHs)))))]) (w1 := [(bo, .inr (1, [.int mdc9_151, .ref aEl, .int (nI sz_9_152)])), (aEl, .inl (cEl, 10, .inr (.inr (.inr (.inr fEl9_153)))))]) hP hD [3, 4] [0, 1, 2] rfl rfl (by decide) (by decide) hk1 hFc hP1 hD1
        have hK := (hK.sub (tys' := [(cHs, .object "MistHeaps$Heap")]) [0] rfl).app hK1
        generalize H1 = H at hP hS ⊢
        have hP : va_P (dC, dI) vwCl [(h0, .inr (13, [.ref sc, .ref kp, .int ik, .ref bl, .ref go, .ref ch, .ref bo])), (sc, .inr (10, [.ref aTp, .int (nI ts), .ref aHl, .int (nI nh), .long ed, .int mi, .int sn, .ref aHs, .int (nI n), .ref aWk, .int (nI wz), .ref aBk, .int (nI bz), .ref aFc])), (aHs, .inl (cHs, 8, .inr (.inr (.inr (.inr fHs))))), (bo, .inr (1, [.int mdc9_151, .ref aEl, .int (nI sz_9_152)])), (aEl, .inl (cEl, 10, .inr (.inr (.inr (.inr fEl9_153)))))] H := hP
        have hD : va_D A [(h0, .inr (13, [.ref sc, .ref kp, .int ik, .ref bl, .ref go, .ref ch, .ref bo])), (sc, .inr (10, [.ref aTp, .int (nI ts), .ref aHl, .int (nI nh), .long ed, .int mi, .int sn, .ref aHs, .int (nI n), .ref aWk, .int (nI wz), .ref aBk, .int (nI bz), .ref aFc])), (aHs, .inl (cHs, 8, .inr (.inr (.inr (.inr fHs))))), (bo, .inr (1, [.int mdc9_151, .ref aEl, .int (nI sz_9_152)])), (aEl, .inl (cEl, 10, .inr (.inr (.inr (.inr fEl9_153)))))] := hD
        have hK : va_K (dC, dI) vwCl [(cHs, .object "MistHeaps$Heap"), (cEl, .object "java/lang/Object")] s := hK
        obtain ⟨h_154, hL_155⟩ := hw_150
        rw [hQ]
        have hP9 := hP.sub (ws' := [(h0, .inr (13, [.ref sc, .ref kp, .int ik, .ref bl, .ref go, .ref ch, .ref bo])), (sc, .inr (10, [.ref aTp, .int (nI ts), .ref aHl, .int (nI nh), .long ed, .int mi, .int sn, .ref aHs, .int (nI n), .ref aWk, .int (nI wz), .ref aBk, .int (nI bz), .ref aFc])), (aHs, .inl (cHs, 8, .inr (.inr (.inr (.inr fHs))))), (bo, .inr (1, [.int mdc9_151, .ref aEl, .int (nI sz_9_152)])), (aEl, .inl (cEl, 10, .inr (.inr (.inr (.inr fEl9_153)))))]) [0, 1, 2, 3, 4] rfl
        have hD9 := hD.sub (ws' := [(h0, .inr (13, [.ref sc, .ref kp, .int ik, .ref bl, .ref go, .ref ch, .ref bo])), (sc, .inr (10, [.ref aTp, .int (nI ts), .ref aHl, .int (nI nh), .long ed, .int mi, .int sn, .ref aHs, .int (nI n), .ref aWk, .int (nI wz), .ref aBk, .int (nI bz), .ref aFc])), (aHs, .inl (cHs, 8, .inr (.inr (.inr (.inr fHs))))), (bo, .inr (1, [.int mdc9_151, .ref aEl, .int (nI sz_9_152)])), (aEl, .inl (cEl, 10, .inr (.inr (.inr (.inr fEl9_153)))))]) [0, 1, 2, 3, 4] (by decide) rfl
        have hK9 := hK.sub (tys' := [(cHs, .object "MistHeaps$Heap"), (cEl, .object "java/lang/Object")]) [0, 1] rfl
        refine W.widen (k := 1) (n := 10) (by omega) (by omega) ?_
        exact W.iret (v := r_149) hx hb hr (fun tQ htQ hWQ => ⟨⟨r_149, (mdc9_151, sz_9_152, fEl9_153), rfl, ⟨by omega, hL_155⟩, by rw [htQ]; exact hP9, va_K.moved hWQ.alike hK9, hD9⟩, hS.F htQ⟩) hS.2.2 dX11_act_84
      · skip
        have hY : Fz dC dI [((ya j_8), .inr (12, [.int (yk j_8), .int (nI j_8), .int (yv j_8), .int (yc j_8)]))] [] A s := by have h9 := (hH_ j_8 (by omega)).2; rw [hpE, e_113] at h9; exact h9
        have hPc := hP.sub (ws' := [(bo, .inr (1, [.int mdc9_3, .ref aEl, .int (nI 0)])), (aEl, .inl (cEl, 10, .inr (.inr (.inr (.inr fEl9_5)))))]) [3, 4] rfl
        have hDc := hD.sub (ws' := [(bo, .inr (1, [.int mdc9_3, .ref aEl, .int (nI 0)])), (aEl, .inl (cEl, 10, .inr (.inr (.inr (.inr fEl9_5)))))]) [3, 4] (by decide) rfl
        have hKc := hK.sub (tys' := [(cEl, .object "java/lang/Object")]) [1] rfl
        have hFc := va_free (wc := [(bo, .inr (1, [.int mdc9_3, .ref aEl, .int (nI 0)])), (aEl, .inl (cEl, 10, .inr (.inr (.inr (.inr fEl9_5)))))]) hD hS hA [3, 4] rfl
        refine va_calli (va_runU (As := [.int z, .ref bo]) (rest := []) ⟨hx, hb, hml, hown, hts⟩ (c_X10_doLooks_X10_1 l dC dI ad cB bS    bo aEl j_8 (yk j_8) (yv j_8) (yc j_8) z cEl fEl9_5 (ya j_8) 0 mdc9_3 H.size (by omega) ((fun k0 h0 => absurd h0 (Nat.not_lt_zero k0)))) (va_cwO 2 hts gX11_act_X10_doLooks_u240X10 rfl rfl rfl kc_xAct1_5 (by decide +kernel) ⟨Nat.le_of_ble_eq_true rfl, Nat.le_of_ble_eq_true rfl⟩) ⟨fun a U g mk q => by obtain ⟨q0, q1, qP, qK, qD, qhI_, qhB_, qhW_, qhZ⟩ := q; exact ⟨q0, q1, qP, va_K.moved (u := U) (U := U.calling g mk a) (Vm.Alike.refl U.vm) qK, qD, qhI_.same rfl rfl, qhB_.same rfl rfl, qhW_.same rfl rfl, qhZ.same rfl rfl⟩, va_recv hY.2.1 (hY.P hS) (ci := 12) (q0 := 0) rfl rfl, fun U hU hW => ⟨rfl, by rw [hU], by rw [hU]; exact hPc, va_K.moved hW.alike hKc, hDc.weaken (fun _ _ _ _ => trivial), hI_.call hS hU hW (fun q h => hFc q h), hB_.call hS hU hW (fun q h => hFc q h), hW_.call hS hU hW (fun q h => hFc q h), hY.call hS hU hW (fun q h => hFc q h)⟩⟩ rfl rfl hl.1 rfl (lv_room (Nat.le_of_ble_eq_true rfl)) dX11_act_81 ⟨Nat.le_of_ble_eq_true rfl, Nat.le_of_ble_eq_true rfl⟩) hS (fun q _ h => hFc q h) hFc (fun r_156 u tC H1 locs htC hvm hw_157 hB hz1 hk1 hS => ?_)
        obtain ⟨mdc9_158, sz_9_159, fEl9_160⟩ := u
        try dsimp only at hw_157 hB
        obtain ⟨hP1, hK1, hD1⟩ := hB
        rw [htC] at hP1
        have hK1 := va_K.moved hvm.symm hK1
        obtain ⟨hP, hD⟩ := va_join (wr := [(h0, .inr (13, [.ref sc, .ref kp, .int ik, .ref bl, .ref go, .ref ch, .ref bo])), (sc, .inr (10, [.ref aTp, .int (nI ts), .ref aHl, .int (nI nh), .long ed, .int mi, .int sn, .ref aHs, .int (nI n), .ref aWk, .int (nI wz), .ref aBk, .int (nI bz), .ref aFc])), (aHs, .inl (cHs, 8, .inr (.inr (.inr (.inr fHs)))))]) (w1 := [(bo, .inr (1, [.int mdc9_158, .ref aEl, .int (nI sz_9_159)])), (aEl, .inl (cEl, 10, .inr (.inr (.inr (.inr fEl9_160)))))]) hP hD [3, 4] [0, 1, 2] rfl rfl (by decide) (by decide) hk1 hFc hP1 hD1
        have hK := (hK.sub (tys' := [(cHs, .object "MistHeaps$Heap")]) [0] rfl).app hK1
        generalize H1 = H at hP hS ⊢
        have hP : va_P (dC, dI) vwCl [(h0, .inr (13, [.ref sc, .ref kp, .int ik, .ref bl, .ref go, .ref ch, .ref bo])), (sc, .inr (10, [.ref aTp, .int (nI ts), .ref aHl, .int (nI nh), .long ed, .int mi, .int sn, .ref aHs, .int (nI n), .ref aWk, .int (nI wz), .ref aBk, .int (nI bz), .ref aFc])), (aHs, .inl (cHs, 8, .inr (.inr (.inr (.inr fHs))))), (bo, .inr (1, [.int mdc9_158, .ref aEl, .int (nI sz_9_159)])), (aEl, .inl (cEl, 10, .inr (.inr (.inr (.inr fEl9_160)))))] H := hP
        have hD : va_D A [(h0, .inr (13, [.ref sc, .ref kp, .int ik, .ref bl, .ref go, .ref ch, .ref bo])), (sc, .inr (10, [.ref aTp, .int (nI ts), .ref aHl, .int (nI nh), .long ed, .int mi, .int sn, .ref aHs, .int (nI n), .ref aWk, .int (nI wz), .ref aBk, .int (nI bz), .ref aFc])), (aHs, .inl (cHs, 8, .inr (.inr (.inr (.inr fHs))))), (bo, .inr (1, [.int mdc9_158, .ref aEl, .int (nI sz_9_159)])), (aEl, .inl (cEl, 10, .inr (.inr (.inr (.inr fEl9_160)))))] := hD
        have hK : va_K (dC, dI) vwCl [(cHs, .object "MistHeaps$Heap"), (cEl, .object "java/lang/Object")] s := hK
        obtain ⟨h_161, hL_162⟩ := hw_157
        rw [hQ]
        have hP9 := hP.sub (ws' := [(h0, .inr (13, [.ref sc, .ref kp, .int ik, .ref bl, .ref go, .ref ch, .ref bo])), (sc, .inr (10, [.ref aTp, .int (nI ts), .ref aHl, .int (nI nh), .long ed, .int mi, .int sn, .ref aHs, .int (nI n), .ref aWk, .int (nI wz), .ref aBk, .int (nI bz), .ref aFc])), (aHs, .inl (cHs, 8, .inr (.inr (.inr (.inr fHs))))), (bo, .inr (1, [.int mdc9_158, .ref aEl, .int (nI sz_9_159)])), (aEl, .inl (cEl, 10, .inr (.inr (.inr (.inr fEl9_160)))))]) [0, 1, 2, 3, 4] rfl
        have hD9 := hD.sub (ws' := [(h0, .inr (13, [.ref sc, .ref kp, .int ik, .ref bl, .ref go, .ref ch, .ref bo])), (sc, .inr (10, [.ref aTp, .int (nI ts), .ref aHl, .int (nI nh), .long ed, .int mi, .int sn, .ref aHs, .int (nI n), .ref aWk, .int (nI wz), .ref aBk, .int (nI bz), .ref aFc])), (aHs, .inl (cHs, 8, .inr (.inr (.inr (.inr fHs))))), (bo, .inr (1, [.int mdc9_158, .ref aEl, .int (nI sz_9_159)])), (aEl, .inl (cEl, 10, .inr (.inr (.inr (.inr fEl9_160)))))]) [0, 1, 2, 3, 4] (by decide) rfl
        have hK9 := hK.sub (tys' := [(cHs, .object "MistHeaps$Heap"), (cEl, .object "java/lang/Object")]) [0, 1] rfl
        refine W.widen (k := 1) (n := 10) (by omega) (by omega) ?_
        exact W.iret (v := r_156) hx hb hr (fun tQ htQ hWQ => ⟨⟨r_156, (mdc9_158, sz_9_159, fEl9_160), rfl, ⟨by omega, hL_162⟩, by rw [htQ]; exact hP9, va_K.moved hWQ.alike hK9, hD9⟩, hS.F htQ⟩) hS.2.2 dX11_act_84
    refine lv_tableOut (tgt := 85) hx hb dX11_act_25 (sw_out 0 2 y (fun k hk => by
      match k, hk with
      | 0, _ => exact c_12_0
      | 1, _ => exact c_12_1
      | 2, _ => exact c_12_2
      | k + 3, hk => exact absurd hk (by omega))) (by decide) ?_
    refine lv_iconst (v := 0) hx hb dX11_act_85 (by decide) ?_
    rw [hQ]
    have hP9 := hP.sub (ws' := [(h0, .inr (13, [.ref sc, .ref kp, .int ik, .ref bl, .ref go, .ref ch, .ref bo])), (sc, .inr (10, [.ref aTp, .int (nI ts), .ref aHl, .int (nI nh), .long ed, .int mi, .int sn, .ref aHs, .int (nI n), .ref aWk, .int (nI wz), .ref aBk, .int (nI bz), .ref aFc])), (aHs, .inl (cHs, 8, .inr (.inr (.inr (.inr fHs))))), (bo, .inr (1, [.int mdc9_3, .ref aEl, .int (nI 0)])), (aEl, .inl (cEl, 10, .inr (.inr (.inr (.inr fEl9_5)))))]) [0, 1, 2, 3, 4] rfl
    have hD9 := hD.sub (ws' := [(h0, .inr (13, [.ref sc, .ref kp, .int ik, .ref bl, .ref go, .ref ch, .ref bo])), (sc, .inr (10, [.ref aTp, .int (nI ts), .ref aHl, .int (nI nh), .long ed, .int mi, .int sn, .ref aHs, .int (nI n), .ref aWk, .int (nI wz), .ref aBk, .int (nI bz), .ref aFc])), (aHs, .inl (cHs, 8, .inr (.inr (.inr (.inr fHs))))), (bo, .inr (1, [.int mdc9_3, .ref aEl, .int (nI 0)])), (aEl, .inl (cEl, 10, .inr (.inr (.inr (.inr fEl9_5)))))]) [0, 1, 2, 3, 4] (by decide) rfl
    have hK9 := hK.sub (tys' := [(cHs, .object "MistHeaps$Heap"), (cEl, .object "java/lang/Object")]) [0, 1] rfl
    refine W.widen (k := 1) (n := 10) (by omega) (by omega) ?_
    exact W.iret (v := 0) hx hb hr (fun tQ htQ hWQ => ⟨⟨0, (mdc9_3, 0, fEl9_5), rfl, ⟨by omega, (fun k0 h0 => absurd h0 (Nat.not_lt_zero k0))⟩, by rw [htQ]; exact hP9, va_K.moved hWQ.alike hK9, hD9⟩, hS.F htQ⟩) hS.2.2 dX11_act_86
  · skip
    refine qq_as (v := .null) rfl ?_
    refine lv_astoreN (lv' := [(4, .null), (0, .ref h0), (1, .int x), (2, .int y), (3, .int z)]) hx hb dX11_act_15 hl (by decide) rfl (fun ls hl => ?_)
    refine lv_aloadN hx hb dX11_act_17 (lv_at hl 0 rfl) ?_
    refine lv_ifnonnullN hx hb dX11_act_19 ?_
    refine lv_iconst (v := 0) hx hb dX11_act_22 (by decide) ?_
    rw [hQ]
    have hP9 := hP.sub (ws' := [(h0, .inr (13, [.ref sc, .ref kp, .int ik, .ref bl, .ref go, .ref ch, .ref bo])), (sc, .inr (10, [.ref aTp, .int (nI ts), .ref aHl, .int (nI nh), .long ed, .int mi, .int sn, .ref aHs, .int (nI n), .ref aWk, .int (nI wz), .ref aBk, .int (nI bz), .ref aFc])), (aHs, .inl (cHs, 8, .inr (.inr (.inr (.inr fHs))))), (bo, .inr (1, [.int mdc9_3, .ref aEl, .int (nI 0)])), (aEl, .inl (cEl, 10, .inr (.inr (.inr (.inr fEl9_5)))))]) [0, 1, 2, 3, 4] rfl
    have hD9 := hD.sub (ws' := [(h0, .inr (13, [.ref sc, .ref kp, .int ik, .ref bl, .ref go, .ref ch, .ref bo])), (sc, .inr (10, [.ref aTp, .int (nI ts), .ref aHl, .int (nI nh), .long ed, .int mi, .int sn, .ref aHs, .int (nI n), .ref aWk, .int (nI wz), .ref aBk, .int (nI bz), .ref aFc])), (aHs, .inl (cHs, 8, .inr (.inr (.inr (.inr fHs))))), (bo, .inr (1, [.int mdc9_3, .ref aEl, .int (nI 0)])), (aEl, .inl (cEl, 10, .inr (.inr (.inr (.inr fEl9_5)))))]) [0, 1, 2, 3, 4] (by decide) rfl
    have hK9 := hK.sub (tys' := [(cHs, .object "MistHeaps$Heap"), (cEl, .object "java/lang/Object")]) [0, 1] rfl
    refine W.widen (k := 1) (n := 10) (by omega) (by omega) ?_
    exact W.iret (v := 0) hx hb hr (fun tQ htQ hWQ => ⟨⟨0, (mdc9_3, 0, fEl9_5), rfl, ⟨by omega, (fun k0 h0 => absurd h0 (Nat.not_lt_zero k0))⟩, by rw [htQ]; exact hP9, va_K.moved hWQ.alike hK9, hD9⟩, hS.F htQ⟩) hS.2.2 dX11_act_23

theorem kc_xAct0_0 : ∀ w ∈ wsX110, w ∈ wsX11_act := by decide +kernel
theorem kc_xAct0_1 : (.fieldLink RX11 49 "MistHeaps" "bodies" "Ljava/util/ArrayList;" : Cond) ∈ wsX11_act := by decide +kernel
theorem kc_xAct0_2 : (.fieldLink RX11 14 "MistHeaps" "scene" "LMistHeaps$Scene;" : Cond) ∈ wsX11_act := by decide +kernel
theorem kc_xAct0_3 : (.code yX3_doSees cX3_doSees 3 (some .int) : Cond) ∈ wsX11_act := by decide +kernel
theorem kc_xAct0_4 : (.code yX3_doGoes cX3_doGoes 3 (some .int) : Cond) ∈ wsX11_act := by decide +kernel
theorem kc_xAct0_5 : (.code yX3_doLooks cX3_doLooks 3 (some .int) : Cond) ∈ wsX11_act := by decide +kernel
set_option maxHeartbeats 4000000 in
set_option maxRecDepth 100000 in
theorem c_xAct0 (l : Launch) (dC : Nat → ClassId) (dI : Nat → Nat → Nat) (ad : Nat → Nat) (cB bS : Nat)    (h0 : Nat) (sc : Nat) (kp : Nat) (bl : Nat) (go : Nat) (ch : Nat) (bo : Nat) (aTp : Nat) (aHl : Nat) (aHs : Nat) (aWk : Nat) (aBk : Nat) (aFc : Nat) (ts : Nat) (nh : Nat) (n : Nat) (wz : Nat) (bz : Nat) (mi : Int32) (sn : Int32) (ik : Int32) (x : Int32) (y : Int32) (z : Int32) (ed : Int64) (cHs : ClassId) (yk : Nat → Int32) (yv : Nat → Int32) (yc : Nat → Int32) (fHs : Nat → Option Nat) (yi : Nat → Nat) (ya : Nat → Nat) (mdc : Int32) (sz : Nat) (zhs : ∀ k0, k0 < n → fHs k0 = some (ya k0)) (hn8 : n ≤ 8) : Met l yX11_act wsX11_act ({ frames := 8, cells := 1, slots := 10, locals := 176 } : Room) (va_Pc [.ref h0, .int x, .int y, .int z] (fun U => U.heap.size = sz ∧ va_P (dC, dI) vwCl [(h0, .inr (13, [.ref sc, .ref kp, .int ik, .ref bl, .ref go, .ref ch, .ref bo])), (sc, .inr (10, [.ref aTp, .int (nI ts), .ref aHl, .int (nI nh), .long ed, .int mi, .int sn, .ref aHs, .int (nI n), .ref aWk, .int (nI wz), .ref aBk, .int (nI bz), .ref aFc])), (aHs, .inl (cHs, 8, .inr (.inr (.inr (.inr fHs))))), (bo, .inr (1, [.int mdc, .ref bS, .int 0]))] U.heap ∧ va_K (dC, dI) vwCl [(cHs, .object "MistHeaps$Heap")] U ∧ va_D (fun _ => True) [(h0, .inr (13, [.ref sc, .ref kp, .int ik, .ref bl, .ref go, .ref ch, .ref bo])), (sc, .inr (10, [.ref aTp, .int (nI ts), .ref aHl, .int (nI nh), .long ed, .int mi, .int sn, .ref aHs, .int (nI n), .ref aWk, .int (nI wz), .ref aBk, .int (nI bz), .ref aFc])), (aHs, .inl (cHs, 8, .inr (.inr (.inr (.inr fHs))))), (bo, .inr (1, [.int mdc, .ref bS, .int 0]))] ∧ Gi ad cB bS (va_A [(h0, .inr (13, [.ref sc, .ref kp, .int ik, .ref bl, .ref go, .ref ch, .ref bo])), (sc, .inr (10, [.ref aTp, .int (nI ts), .ref aHl, .int (nI nh), .long ed, .int mi, .int sn, .ref aHs, .int (nI n), .ref aWk, .int (nI wz), .ref aBk, .int (nI bz), .ref aFc])), (aHs, .inl (cHs, 8, .inr (.inr (.inr (.inr fHs))))), (bo, .inr (1, [.int mdc, .ref bS, .int 0]))] sz) U ∧ Gb (va_A [(h0, .inr (13, [.ref sc, .ref kp, .int ik, .ref bl, .ref go, .ref ch, .ref bo])), (sc, .inr (10, [.ref aTp, .int (nI ts), .ref aHl, .int (nI nh), .long ed, .int mi, .int sn, .ref aHs, .int (nI n), .ref aWk, .int (nI wz), .ref aBk, .int (nI bz), .ref aFc])), (aHs, .inl (cHs, 8, .inr (.inr (.inr (.inr fHs))))), (bo, .inr (1, [.int mdc, .ref bS, .int 0]))] sz) U ∧ Gw (va_A [(h0, .inr (13, [.ref sc, .ref kp, .int ik, .ref bl, .ref go, .ref ch, .ref bo])), (sc, .inr (10, [.ref aTp, .int (nI ts), .ref aHl, .int (nI nh), .long ed, .int mi, .int sn, .ref aHs, .int (nI n), .ref aWk, .int (nI wz), .ref aBk, .int (nI bz), .ref aFc])), (aHs, .inl (cHs, 8, .inr (.inr (.inr (.inr fHs))))), (bo, .inr (1, [.int mdc, .ref bS, .int 0]))] sz) U ∧ Hs dC dI n yi ya yk yv yc (va_A [(h0, .inr (13, [.ref sc, .ref kp, .int ik, .ref bl, .ref go, .ref ch, .ref bo])), (sc, .inr (10, [.ref aTp, .int (nI ts), .ref aHl, .int (nI nh), .long ed, .int mi, .int sn, .ref aHs, .int (nI n), .ref aWk, .int (nI wz), .ref aBk, .int (nI bz), .ref aFc])), (aHs, .inl (cHs, 8, .inr (.inr (.inr (.inr fHs))))), (bo, .inr (1, [.int mdc, .ref bS, .int 0]))] sz) U)) (va_Qi (fun (r : Int32) (u : (va_W) × (List (ClassId × FieldType))) => match u with | (L9, K9) => (∃ mdc7 : Int32, L9 = [(bo, .inr (1, [.int mdc7, .ref bS, .int 0]))] ∧ K9 = []) ∨ (∃ (mdc7 : Int32) (aEl7 : Nat) (cEl7 : ClassId) (sz7 : Nat) (fEl7 : Nat → Option Nat), L9 = [(bo, .inr (1, [.int mdc7, .ref aEl7, .int (nI sz7)])), (aEl7, .inl (cEl7, 10, .inr (.inr (.inr (.inr fEl7)))))] ∧ K9 = [(cEl7, .object "java/lang/Object")] ∧ sz7 ≤ 10 ∧ okL ad fEl7 sz7)) (fun (u : (va_W) × (List (ClassId × FieldType))) (t : State) => match u with | (L9, K9) => va_P (dC, dI) vwCl ([(h0, .inr (13, [.ref sc, .ref kp, .int ik, .ref bl, .ref go, .ref ch, .ref bo])), (sc, .inr (10, [.ref aTp, .int (nI ts), .ref aHl, .int (nI nh), .long ed, .int mi, .int sn, .ref aHs, .int (nI n), .ref aWk, .int (nI wz), .ref aBk, .int (nI bz), .ref aFc])), (aHs, .inl (cHs, 8, .inr (.inr (.inr (.inr fHs)))))] ++ L9) t.heap ∧ va_K (dC, dI) vwCl ([(cHs, .object "MistHeaps$Heap")] ++ K9) t ∧ va_D (va_A [(h0, .inr (13, [.ref sc, .ref kp, .int ik, .ref bl, .ref go, .ref ch, .ref bo])), (sc, .inr (10, [.ref aTp, .int (nI ts), .ref aHl, .int (nI nh), .long ed, .int mi, .int sn, .ref aHs, .int (nI n), .ref aWk, .int (nI wz), .ref aBk, .int (nI bz), .ref aFc])), (aHs, .inl (cHs, 8, .inr (.inr (.inr (.inr fHs))))), (bo, .inr (1, [.int mdc, .ref bS, .int 0]))] sz) ([(h0, .inr (13, [.ref sc, .ref kp, .int ik, .ref bl, .ref go, .ref ch, .ref bo])), (sc, .inr (10, [.ref aTp, .int (nI ts), .ref aHl, .int (nI nh), .long ed, .int mi, .int sn, .ref aHs, .int (nI n), .ref aWk, .int (nI wz), .ref aBk, .int (nI bz), .ref aFc])), (aHs, .inl (cHs, 8, .inr (.inr (.inr (.inr fHs)))))] ++ L9)) (va_A [(h0, .inr (13, [.ref sc, .ref kp, .int ik, .ref bl, .ref go, .ref ch, .ref bo])), (sc, .inr (10, [.ref aTp, .int (nI ts), .ref aHl, .int (nI nh), .long ed, .int mi, .int sn, .ref aHs, .int (nI n), .ref aWk, .int (nI wz), .ref aBk, .int (nI bz), .ref aFc])), (aHs, .inl (cHs, 8, .inr (.inr (.inr (.inr fHs))))), (bo, .inr (1, [.int mdc, .ref bS, .int 0]))] sz)) 1 10 (va_A [(h0, .inr (13, [.ref sc, .ref kp, .int ik, .ref bl, .ref go, .ref ch, .ref bo])), (sc, .inr (10, [.ref aTp, .int (nI ts), .ref aHl, .int (nI nh), .long ed, .int mi, .int sn, .ref aHs, .int (nI n), .ref aWk, .int (nI wz), .ref aBk, .int (nI bz), .ref aFc])), (aHs, .inl (cHs, 8, .inr (.inr (.inr (.inr fHs))))), (bo, .inr (1, [.int mdc, .ref bS, .int 0]))] sz) := by
  refine met_ofQ (cc := cX11_act) (maxL := 5) (ret := (some .int)) (by decide) rfl ?_
  intro p e s m args below meth c s₁ Q B hml hv hQ
  obtain ⟨rfl, hsz, hP, hK, hD0, hI_, hB_, hW_, hH_⟩ := hv
  have hx := B.exec
  have hb := B.bytes
  have hr := B.returns
  have hts := atoms_spec (ws := wsX11_act) B.pre
  have hown : s.vm.findClass RX11 = some m.cls := findClass_of_methodNamed B.named
  have hlocks := B.notSynchronized
  subst hsz
  have hD := hD0.self (sz := s.heap.size)
  generalize hAe : va_A [(h0, .inr (13, [.ref sc, .ref kp, .int ik, .ref bl, .ref go, .ref ch, .ref bo])), (sc, .inr (10, [.ref aTp, .int (nI ts), .ref aHl, .int (nI nh), .long ed, .int mi, .int sn, .ref aHs, .int (nI n), .ref aWk, .int (nI wz), .ref aBk, .int (nI bz), .ref aFc])), (aHs, .inl (cHs, 8, .inr (.inr (.inr (.inr fHs))))), (bo, .inr (1, [.int mdc, .ref bS, .int 0]))] s.heap.size = A at hD hQ hI_ hB_ hW_ hH_ ⊢
  have hA : ∀ q : Nat, s.heap.size ≤ q → A q := fun q h => by rw [← hAe]; exact Or.inr h
  have hS : va_S A s.heap s.heap [] := va_S.rf
  have hl := lv_entry [.ref h0, .int x, .int y, .int z] (n := 5) (Nat.le_of_ble_eq_true rfl)
  rw [lg_entry_eq]
  generalize (lg_sl [.ref h0, .int x, .int y, .int z] ++ List.replicate (5 - (lg_sl [.ref h0, .int x, .int y, .int z]).length) Slot.unset).toArray = ls at hl ⊢
  generalize hag : ([.ref h0, .int x, .int y, .int z] : List Value).toArray = args at hts hQ ⊢
  have hl : lv_has ls 5 [(0, .ref h0), (1, .int x), (2, .int y), (3, .int z)] := hl
  obtain ⟨H, hH⟩ : ∃ H : Heap, H = s.heap := ⟨_, rfl⟩
  rw [← hH] at hP
  rw [← hH]
  have hS : va_S A s.heap H [] := by rw [hH]; exact hS
  obtain ⟨locs, hlo⟩ : ∃ L : List Loc, L = [] := ⟨_, rfl⟩
  rw [← hlo] at hS
  rw [← hlo]
  clear hH hlo
  refine lv_aload_n hx hb dX11_act_0 rfl (lv_at hl 0 rfl) ?_
  refine va_get (D := (dC, dI)) (ci := 13) (v := .ref bo) (C := RX11) (T := TX11) (N := 7) hx hb hts kc_xAct0_0 hown hK hP 0 rfl rfl 6 (by decide) (hts (.fieldLink RX11 49 "MistHeaps" "bodies" "Ljava/util/ArrayList;") kc_xAct0_1) (fun _ h9 => h9) rfl dX11_act_1 ?_
  have hPc := hP.sub (ws' := [(bo, .inr (1, [.int mdc, .ref bS, .int 0]))]) [3] rfl
  have hDc := hD.sub (ws' := [(bo, .inr (1, [.int mdc, .ref bS, .int 0]))]) [3] (by decide) rfl
  have hKc := hK.sub (tys' := []) [] rfl
  have hFc := va_free (wc := [(bo, .inr (1, [.int mdc, .ref bS, .int 0]))]) hD hS hA [3] rfl
  refine va_callv (va_runV (As := []) (rest := []) ⟨hx, hb, hml, hown, hts⟩ (c_lclear0 l dC dI bo bS mdc H.size) (cwV 0 hts gX11_act_Jx4a65c_clear_da8c8 rfl rfl rfl (by decide +kernel) ⟨Nat.le_of_ble_eq_true rfl, Nat.le_of_ble_eq_true rfl⟩) ⟨fun a U g mk q => by obtain ⟨q0, q1, qP, qK, qD⟩ := q; exact ⟨q0, q1, qP, va_K.moved (u := U) (U := U.calling g mk a) (Vm.Alike.refl U.vm) qK, qD⟩, va_recv hK hP (ci := 1) (q0 := 3) rfl rfl, fun U hU hW => ⟨rfl, by rw [hU], by rw [hU]; exact hPc, va_K.moved hW.alike hKc, hDc.weaken (fun _ _ _ _ => trivial)⟩⟩ rfl rfl hl.1 rfl (lv_room (Nat.le_of_ble_eq_true rfl)) dX11_act_4 ⟨Nat.le_of_ble_eq_true rfl, Nat.le_of_ble_eq_true rfl⟩) hS (fun q _ h => hFc q h) hFc (fun u tC H1 locs htC hvm hw_2 hB hz1 hk1 hS => ?_)
  obtain ⟨mdc9_3, rfl⟩ : ∃ z, z = u := ⟨_, rfl⟩
  try dsimp only at hw_2 hB
  obtain ⟨hP1, hK1, hD1⟩ := hB
  rw [htC] at hP1
  have hK1 := va_K.moved hvm.symm hK1
  obtain ⟨hP, hD⟩ := va_join (wr := [(h0, .inr (13, [.ref sc, .ref kp, .int ik, .ref bl, .ref go, .ref ch, .ref bo])), (sc, .inr (10, [.ref aTp, .int (nI ts), .ref aHl, .int (nI nh), .long ed, .int mi, .int sn, .ref aHs, .int (nI n), .ref aWk, .int (nI wz), .ref aBk, .int (nI bz), .ref aFc])), (aHs, .inl (cHs, 8, .inr (.inr (.inr (.inr fHs)))))]) (w1 := [(bo, .inr (1, [.int mdc9_3, .ref bS, .int 0]))]) hP hD [3] [0, 1, 2] rfl rfl (by decide) (by decide) hk1 hFc hP1 hD1
  have hK := (hK.sub (tys' := [(cHs, .object "MistHeaps$Heap")]) [0] rfl).app hK1
  generalize H1 = H at hP hS ⊢
  have hP : va_P (dC, dI) vwCl [(h0, .inr (13, [.ref sc, .ref kp, .int ik, .ref bl, .ref go, .ref ch, .ref bo])), (sc, .inr (10, [.ref aTp, .int (nI ts), .ref aHl, .int (nI nh), .long ed, .int mi, .int sn, .ref aHs, .int (nI n), .ref aWk, .int (nI wz), .ref aBk, .int (nI bz), .ref aFc])), (aHs, .inl (cHs, 8, .inr (.inr (.inr (.inr fHs))))), (bo, .inr (1, [.int mdc9_3, .ref bS, .int 0]))] H := hP
  have hD : va_D A [(h0, .inr (13, [.ref sc, .ref kp, .int ik, .ref bl, .ref go, .ref ch, .ref bo])), (sc, .inr (10, [.ref aTp, .int (nI ts), .ref aHl, .int (nI nh), .long ed, .int mi, .int sn, .ref aHs, .int (nI n), .ref aWk, .int (nI wz), .ref aBk, .int (nI bz), .ref aFc])), (aHs, .inl (cHs, 8, .inr (.inr (.inr (.inr fHs))))), (bo, .inr (1, [.int mdc9_3, .ref bS, .int 0]))] := hD
  have hK : va_K (dC, dI) vwCl [(cHs, .object "MistHeaps$Heap")] s := hK
  refine lv_aload_n hx hb dX11_act_7 rfl (lv_at hl 0 rfl) ?_
  refine va_get (D := (dC, dI)) (ci := 13) (v := .ref sc) (C := RX11) (T := TX11) (N := 7) hx hb hts kc_xAct0_0 hown hK hP 0 rfl rfl 0 (by decide) (hts (.fieldLink RX11 14 "MistHeaps" "scene" "LMistHeaps$Scene;") kc_xAct0_2) (fun _ h9 => h9) rfl dX11_act_8 ?_
  refine lv_iload_n hx hb dX11_act_11 rfl (lv_at hl 1 rfl) ?_
  have hPc := hP.sub (ws' := [(sc, .inr (10, [.ref aTp, .int (nI ts), .ref aHl, .int (nI nh), .long ed, .int mi, .int sn, .ref aHs, .int (nI n), .ref aWk, .int (nI wz), .ref aBk, .int (nI bz), .ref aFc])), (aHs, .inl (cHs, 8, .inr (.inr (.inr (.inr fHs)))))]) [1, 2] rfl
  have hKc := hK.sub (tys' := [(cHs, .object "MistHeaps$Heap")]) [0] rfl
  refine va_csq (va_runV (As := [.int x]) (rest := []) ⟨hx, hb, hml, hown, hts⟩ (c_heapAt l dC dI sc aTp aHl aHs aWk aBk aFc ts nh n wz bz mi sn x ed cHs fHs ya (zhs) (hn8)) (cwV 1 hts gX11_act_X8_heapAt rfl rfl rfl (by decide +kernel) ⟨Nat.le_of_ble_eq_true rfl, Nat.le_of_ble_eq_true rfl⟩) ⟨fun a U g mk q => by obtain ⟨q0, qP, qK⟩ := q; exact ⟨q0, qP, va_K.moved (u := U) (U := U.calling g mk a) (Vm.Alike.refl U.vm) qK⟩, va_recv hK hP (ci := 10) (q0 := 1) rfl rfl, fun U hU hW => ⟨rfl, by rw [hU]; exact hPc, va_K.moved hW.alike hKc⟩⟩ rfl rfl hl.1 rfl (lv_room (Nat.le_of_ble_eq_true rfl)) dX11_act_12 ⟨Nat.le_of_ble_eq_true rfl, Nat.le_of_ble_eq_true rfl⟩).run (fun r_4 hw_5 => ?_)
  rcases hw_5 with ⟨j_6, hj_7, rfl, rfl⟩ | ⟨rfl, h_9⟩
  · skip
    refine qq_as (v := .ref (ya j_6)) rfl ?_
    refine lv_astore (lv' := [(4, .ref (ya j_6)), (0, .ref h0), (1, .int (nI j_6)), (2, .int y), (3, .int z)]) hx hb dX11_act_15 hl (by decide) rfl (fun ls hl => ?_)
    refine lv_aload hx hb dX11_act_17 (lv_at hl 0 rfl) ?_
    refine lv_ifnonnull (tgt := 24) hx hb dX11_act_19 (by decide) ?_
    refine lv_iload_n hx hb dX11_act_24 rfl (lv_at hl 3 rfl) ?_
    by_cases c_10_0 : y = 0
    · skip
      refine lv_tableIn (tgt := 52) hx hb dX11_act_25 (by rw [c_10_0]; decide) (by rw [c_10_0]; decide) (by rw [c_10_0]; rfl) (by decide) ?_
      refine lv_aload hx hb dX11_act_52 (lv_at hl 0 rfl) ?_
      refine lv_iload_n hx hb dX11_act_54 rfl (lv_at hl 4 rfl) ?_
      refine lv_aload_n hx hb dX11_act_55 rfl (lv_at hl 1 rfl) ?_
      refine va_get (D := (dC, dI)) (ci := 13) (v := .ref bo) (C := RX11) (T := TX11) (N := 7) hx hb hts kc_xAct0_0 hown hK hP 0 rfl rfl 6 (by decide) (hts (.fieldLink RX11 49 "MistHeaps" "bodies" "Ljava/util/ArrayList;") kc_xAct0_1) (fun _ h9 => h9) rfl dX11_act_56 ?_
      rcases (show yi j_6 = 3 ∨ yi j_6 = 5 ∨ yi j_6 = 6 ∨ yi j_6 = 8 ∨ yi j_6 = 9 ∨ yi j_6 = 11 ∨ yi j_6 = 12 from (hH_ j_6 (by omega)).1) with e_11 | e_11 | e_11 | e_11 | e_11 | e_11 | e_11
      · skip
        have hY : Fz dC dI [((ya j_6), .inr (3, [.int (yk j_6), .int (nI j_6), .int (yv j_6), .int (yc j_6)]))] [] A s := by have h9 := (hH_ j_6 (by omega)).2; rw [hpE, e_11] at h9; exact h9
        have hPc := hP.sub (ws' := [(bo, .inr (1, [.int mdc9_3, .ref bS, .int 0]))]) [3] rfl
        have hDc := hD.sub (ws' := [(bo, .inr (1, [.int mdc9_3, .ref bS, .int 0]))]) [3] (by decide) rfl
        have hKc := hK.sub (tys' := []) [] rfl
        have hFc := va_free (wc := [(bo, .inr (1, [.int mdc9_3, .ref bS, .int 0]))]) hD hS hA [3] rfl
        refine va_calli (va_runU (As := [.int z, .ref bo]) (rest := []) ⟨hx, hb, hml, hown, hts⟩ (c_X3_doSees_X1_0 l dC dI ad cB bS    bo j_6 (yk j_6) (yv j_6) (yc j_6) z (ya j_6) mdc9_3 H.size) (va_cwU 2 hts gX11_act_X3_doSees_u233X1 rfl rfl rfl rfl (by decide +kernel) ⟨Nat.le_of_ble_eq_true rfl, Nat.le_of_ble_eq_true rfl⟩) ⟨fun a U g mk q => by obtain ⟨q0, q1, qP, qK, qD, qhI_, qhB_, qhW_, qhZ⟩ := q; exact ⟨q0, q1, qP, va_K.moved (u := U) (U := U.calling g mk a) (Vm.Alike.refl U.vm) qK, qD, qhI_.same rfl rfl, qhB_.same rfl rfl, qhW_.same rfl rfl, qhZ.same rfl rfl⟩, va_recv hY.2.1 (hY.P hS) (ci := 3) (q0 := 0) rfl rfl, fun U hU hW => ⟨rfl, by rw [hU], by rw [hU]; exact hPc, va_K.moved hW.alike hKc, hDc.weaken (fun _ _ _ _ => trivial), hI_.call hS hU hW (fun q h => hFc q h), hB_.call hS hU hW (fun q h => hFc q h), hW_.call hS hU hW (fun q h => hFc q h), hY.call hS hU hW (fun q h => hFc q h)⟩⟩ rfl rfl hl.1 rfl (lv_room (Nat.le_of_ble_eq_true rfl)) dX11_act_59 ⟨Nat.le_of_ble_eq_true rfl, Nat.le_of_ble_eq_true rfl⟩) hS (fun q _ h => hFc q h) hFc (fun r_12 u tC H1 locs htC hvm hw_13 hB hz1 hk1 hS => ?_)
        obtain ⟨mdc9_14, aEl9_15, cEl9_16, sz_9_17, fEl9_18⟩ := u
        try dsimp only at hw_13 hB
        obtain ⟨hP1, hK1, hD1⟩ := hB
        rw [htC] at hP1
        have hK1 := va_K.moved hvm.symm hK1
        obtain ⟨hP, hD⟩ := va_join (wr := [(h0, .inr (13, [.ref sc, .ref kp, .int ik, .ref bl, .ref go, .ref ch, .ref bo])), (sc, .inr (10, [.ref aTp, .int (nI ts), .ref aHl, .int (nI nh), .long ed, .int mi, .int sn, .ref aHs, .int (nI n), .ref aWk, .int (nI wz), .ref aBk, .int (nI bz), .ref aFc])), (aHs, .inl (cHs, 8, .inr (.inr (.inr (.inr fHs)))))]) (w1 := [(bo, .inr (1, [.int mdc9_14, .ref aEl9_15, .int (nI sz_9_17)])), (aEl9_15, .inl (cEl9_16, 10, .inr (.inr (.inr (.inr fEl9_18)))))]) hP hD [3] [0, 1, 2] rfl rfl (by decide) (by decide) hk1 hFc hP1 hD1
        have hK := (hK.sub (tys' := [(cHs, .object "MistHeaps$Heap")]) [0] rfl).app hK1
        generalize H1 = H at hP hS ⊢
        have hP : va_P (dC, dI) vwCl [(h0, .inr (13, [.ref sc, .ref kp, .int ik, .ref bl, .ref go, .ref ch, .ref bo])), (sc, .inr (10, [.ref aTp, .int (nI ts), .ref aHl, .int (nI nh), .long ed, .int mi, .int sn, .ref aHs, .int (nI n), .ref aWk, .int (nI wz), .ref aBk, .int (nI bz), .ref aFc])), (aHs, .inl (cHs, 8, .inr (.inr (.inr (.inr fHs))))), (bo, .inr (1, [.int mdc9_14, .ref aEl9_15, .int (nI sz_9_17)])), (aEl9_15, .inl (cEl9_16, 10, .inr (.inr (.inr (.inr fEl9_18)))))] H := hP
        have hD : va_D A [(h0, .inr (13, [.ref sc, .ref kp, .int ik, .ref bl, .ref go, .ref ch, .ref bo])), (sc, .inr (10, [.ref aTp, .int (nI ts), .ref aHl, .int (nI nh), .long ed, .int mi, .int sn, .ref aHs, .int (nI n), .ref aWk, .int (nI wz), .ref aBk, .int (nI bz), .ref aFc])), (aHs, .inl (cHs, 8, .inr (.inr (.inr (.inr fHs))))), (bo, .inr (1, [.int mdc9_14, .ref aEl9_15, .int (nI sz_9_17)])), (aEl9_15, .inl (cEl9_16, 10, .inr (.inr (.inr (.inr fEl9_18)))))] := hD
        have hK : va_K (dC, dI) vwCl [(cHs, .object "MistHeaps$Heap"), (cEl9_16, .object "java/lang/Object")] s := hK
        refine W.widen (k := 1) (n := 10) (by omega) (by omega) ?_
        obtain ⟨h_19, hL_20⟩ := hw_13
        rw [hQ]
        have hP9 := hP.sub (ws' := [(h0, .inr (13, [.ref sc, .ref kp, .int ik, .ref bl, .ref go, .ref ch, .ref bo])), (sc, .inr (10, [.ref aTp, .int (nI ts), .ref aHl, .int (nI nh), .long ed, .int mi, .int sn, .ref aHs, .int (nI n), .ref aWk, .int (nI wz), .ref aBk, .int (nI bz), .ref aFc])), (aHs, .inl (cHs, 8, .inr (.inr (.inr (.inr fHs))))), (bo, .inr (1, [.int mdc9_14, .ref aEl9_15, .int (nI sz_9_17)])), (aEl9_15, .inl (cEl9_16, 10, .inr (.inr (.inr (.inr fEl9_18)))))]) [0, 1, 2, 3, 4] rfl
        have hD9 := hD.sub (ws' := [(h0, .inr (13, [.ref sc, .ref kp, .int ik, .ref bl, .ref go, .ref ch, .ref bo])), (sc, .inr (10, [.ref aTp, .int (nI ts), .ref aHl, .int (nI nh), .long ed, .int mi, .int sn, .ref aHs, .int (nI n), .ref aWk, .int (nI wz), .ref aBk, .int (nI bz), .ref aFc])), (aHs, .inl (cHs, 8, .inr (.inr (.inr (.inr fHs))))), (bo, .inr (1, [.int mdc9_14, .ref aEl9_15, .int (nI sz_9_17)])), (aEl9_15, .inl (cEl9_16, 10, .inr (.inr (.inr (.inr fEl9_18)))))]) [0, 1, 2, 3, 4] (by decide) rfl
        have hK9 := hK.sub (tys' := [(cHs, .object "MistHeaps$Heap"), (cEl9_16, .object "java/lang/Object")]) [0, 1] rfl
        refine W.widen (k := 1) (n := 10) (by omega) (by omega) ?_
        exact W.iret (v := r_12) hx hb hr (fun tQ htQ hWQ => ⟨⟨r_12, ([(bo, .inr (1, [.int mdc9_14, .ref aEl9_15, .int (nI sz_9_17)])), (aEl9_15, .inl (cEl9_16, 10, .inr (.inr (.inr (.inr fEl9_18)))))], [(cEl9_16, .object "java/lang/Object")]), rfl, Or.inr ⟨_, _, _, _, _, rfl, rfl, by omega, hL_20⟩, by rw [htQ]; exact hP9, va_K.moved hWQ.alike hK9, hD9⟩, hS.F htQ⟩) hS.2.2 dX11_act_62
      · skip
        have hY : Fz dC dI [((ya j_6), .inr (5, [.int (yk j_6), .int (nI j_6), .int (yv j_6), .int (yc j_6)]))] [] A s := by have h9 := (hH_ j_6 (by omega)).2; rw [hpE, e_11] at h9; exact h9
        have hPc := hP.sub (ws' := [(bo, .inr (1, [.int mdc9_3, .ref bS, .int 0]))]) [3] rfl
        have hDc := hD.sub (ws' := [(bo, .inr (1, [.int mdc9_3, .ref bS, .int 0]))]) [3] (by decide) rfl
        have hKc := hK.sub (tys' := []) [] rfl
        have hFc := va_free (wc := [(bo, .inr (1, [.int mdc9_3, .ref bS, .int 0]))]) hD hS hA [3] rfl
        refine va_calli (va_runV (As := [.int z, .ref bo]) (rest := []) ⟨hx, hb, hml, hown, hts⟩ (c_X3_doSees_X3_0 l dC dI ad cB bS    bo j_6 (yk j_6) (yv j_6) (yc j_6) z (ya j_6) mdc9_3 H.size) (cwV 2 hts gX11_act_X3_doSees rfl rfl rfl (by decide +kernel) ⟨Nat.le_of_ble_eq_true rfl, Nat.le_of_ble_eq_true rfl⟩) ⟨fun a U g mk q => by obtain ⟨q0, q1, qP, qK, qD, qhI_, qhB_, qhW_, qhZ⟩ := q; exact ⟨q0, q1, qP, va_K.moved (u := U) (U := U.calling g mk a) (Vm.Alike.refl U.vm) qK, qD, qhI_.same rfl rfl, qhB_.same rfl rfl, qhW_.same rfl rfl, qhZ.same rfl rfl⟩, va_recv hY.2.1 (hY.P hS) (ci := 5) (q0 := 0) rfl rfl, fun U hU hW => ⟨rfl, by rw [hU], by rw [hU]; exact hPc, va_K.moved hW.alike hKc, hDc.weaken (fun _ _ _ _ => trivial), hI_.call hS hU hW (fun q h => hFc q h), hB_.call hS hU hW (fun q h => hFc q h), hW_.call hS hU hW (fun q h => hFc q h), hY.call hS hU hW (fun q h => hFc q h)⟩⟩ rfl rfl hl.1 rfl (lv_room (Nat.le_of_ble_eq_true rfl)) dX11_act_59 ⟨Nat.le_of_ble_eq_true rfl, Nat.le_of_ble_eq_true rfl⟩) hS (fun q _ h => hFc q h) hFc (fun r_21 u tC H1 locs htC hvm hw_22 hB hz1 hk1 hS => ?_)
        obtain ⟨mdc9_23, aEl9_24, cEl9_25, sz_9_26, fEl9_27⟩ := u
        try dsimp only at hw_22 hB
        obtain ⟨hP1, hK1, hD1⟩ := hB
        rw [htC] at hP1
        have hK1 := va_K.moved hvm.symm hK1
        obtain ⟨hP, hD⟩ := va_join (wr := [(h0, .inr (13, [.ref sc, .ref kp, .int ik, .ref bl, .ref go, .ref ch, .ref bo])), (sc, .inr (10, [.ref aTp, .int (nI ts), .ref aHl, .int (nI nh), .long ed, .int mi, .int sn, .ref aHs, .int (nI n), .ref aWk, .int (nI wz), .ref aBk, .int (nI bz), .ref aFc])), (aHs, .inl (cHs, 8, .inr (.inr (.inr (.inr fHs)))))]) (w1 := [(bo, .inr (1, [.int mdc9_23, .ref aEl9_24, .int (nI sz_9_26)])), (aEl9_24, .inl (cEl9_25, 10, .inr (.inr (.inr (.inr fEl9_27)))))]) hP hD [3] [0, 1, 2] rfl rfl (by decide) (by decide) hk1 hFc hP1 hD1
        have hK := (hK.sub (tys' := [(cHs, .object "MistHeaps$Heap")]) [0] rfl).app hK1
        generalize H1 = H at hP hS ⊢
        have hP : va_P (dC, dI) vwCl [(h0, .inr (13, [.ref sc, .ref kp, .int ik, .ref bl, .ref go, .ref ch, .ref bo])), (sc, .inr (10, [.ref aTp, .int (nI ts), .ref aHl, .int (nI nh), .long ed, .int mi, .int sn, .ref aHs, .int (nI n), .ref aWk, .int (nI wz), .ref aBk, .int (nI bz), .ref aFc])), (aHs, .inl (cHs, 8, .inr (.inr (.inr (.inr fHs))))), (bo, .inr (1, [.int mdc9_23, .ref aEl9_24, .int (nI sz_9_26)])), (aEl9_24, .inl (cEl9_25, 10, .inr (.inr (.inr (.inr fEl9_27)))))] H := hP
        have hD : va_D A [(h0, .inr (13, [.ref sc, .ref kp, .int ik, .ref bl, .ref go, .ref ch, .ref bo])), (sc, .inr (10, [.ref aTp, .int (nI ts), .ref aHl, .int (nI nh), .long ed, .int mi, .int sn, .ref aHs, .int (nI n), .ref aWk, .int (nI wz), .ref aBk, .int (nI bz), .ref aFc])), (aHs, .inl (cHs, 8, .inr (.inr (.inr (.inr fHs))))), (bo, .inr (1, [.int mdc9_23, .ref aEl9_24, .int (nI sz_9_26)])), (aEl9_24, .inl (cEl9_25, 10, .inr (.inr (.inr (.inr fEl9_27)))))] := hD
        have hK : va_K (dC, dI) vwCl [(cHs, .object "MistHeaps$Heap"), (cEl9_25, .object "java/lang/Object")] s := hK
        refine W.widen (k := 1) (n := 10) (by omega) (by omega) ?_
        obtain ⟨h_28, hL_29⟩ := hw_22
        rw [hQ]
        have hP9 := hP.sub (ws' := [(h0, .inr (13, [.ref sc, .ref kp, .int ik, .ref bl, .ref go, .ref ch, .ref bo])), (sc, .inr (10, [.ref aTp, .int (nI ts), .ref aHl, .int (nI nh), .long ed, .int mi, .int sn, .ref aHs, .int (nI n), .ref aWk, .int (nI wz), .ref aBk, .int (nI bz), .ref aFc])), (aHs, .inl (cHs, 8, .inr (.inr (.inr (.inr fHs))))), (bo, .inr (1, [.int mdc9_23, .ref aEl9_24, .int (nI sz_9_26)])), (aEl9_24, .inl (cEl9_25, 10, .inr (.inr (.inr (.inr fEl9_27)))))]) [0, 1, 2, 3, 4] rfl
        have hD9 := hD.sub (ws' := [(h0, .inr (13, [.ref sc, .ref kp, .int ik, .ref bl, .ref go, .ref ch, .ref bo])), (sc, .inr (10, [.ref aTp, .int (nI ts), .ref aHl, .int (nI nh), .long ed, .int mi, .int sn, .ref aHs, .int (nI n), .ref aWk, .int (nI wz), .ref aBk, .int (nI bz), .ref aFc])), (aHs, .inl (cHs, 8, .inr (.inr (.inr (.inr fHs))))), (bo, .inr (1, [.int mdc9_23, .ref aEl9_24, .int (nI sz_9_26)])), (aEl9_24, .inl (cEl9_25, 10, .inr (.inr (.inr (.inr fEl9_27)))))]) [0, 1, 2, 3, 4] (by decide) rfl
        have hK9 := hK.sub (tys' := [(cHs, .object "MistHeaps$Heap"), (cEl9_25, .object "java/lang/Object")]) [0, 1] rfl
        refine W.widen (k := 1) (n := 10) (by omega) (by omega) ?_
        exact W.iret (v := r_21) hx hb hr (fun tQ htQ hWQ => ⟨⟨r_21, ([(bo, .inr (1, [.int mdc9_23, .ref aEl9_24, .int (nI sz_9_26)])), (aEl9_24, .inl (cEl9_25, 10, .inr (.inr (.inr (.inr fEl9_27)))))], [(cEl9_25, .object "java/lang/Object")]), rfl, Or.inr ⟨_, _, _, _, _, rfl, rfl, by omega, hL_29⟩, by rw [htQ]; exact hP9, va_K.moved hWQ.alike hK9, hD9⟩, hS.F htQ⟩) hS.2.2 dX11_act_62
      · skip
        have hY : Fz dC dI [((ya j_6), .inr (6, [.int (yk j_6), .int (nI j_6), .int (yv j_6), .int (yc j_6)]))] [] A s := by have h9 := (hH_ j_6 (by omega)).2; rw [hpE, e_11] at h9; exact h9
        have hPc := hP.sub (ws' := [(bo, .inr (1, [.int mdc9_3, .ref bS, .int 0]))]) [3] rfl
        have hDc := hD.sub (ws' := [(bo, .inr (1, [.int mdc9_3, .ref bS, .int 0]))]) [3] (by decide) rfl
        have hKc := hK.sub (tys' := []) [] rfl
        have hFc := va_free (wc := [(bo, .inr (1, [.int mdc9_3, .ref bS, .int 0]))]) hD hS hA [3] rfl
        refine va_calli (va_runU (As := [.int z, .ref bo]) (rest := []) ⟨hx, hb, hml, hown, hts⟩ (c_X4_doSees_X4_0 l dC dI ad cB bS    bo j_6 (yk j_6) (yv j_6) (yc j_6) z (ya j_6) mdc9_3 H.size) (va_cwO 2 hts gX11_act_X4_doSees_u233X4 rfl rfl rfl kc_xAct0_3 (by decide +kernel) ⟨Nat.le_of_ble_eq_true rfl, Nat.le_of_ble_eq_true rfl⟩) ⟨fun a U g mk q => by obtain ⟨q0, q1, qP, qK, qD, qhI_, qhB_, qhW_, qhZ⟩ := q; exact ⟨q0, q1, qP, va_K.moved (u := U) (U := U.calling g mk a) (Vm.Alike.refl U.vm) qK, qD, qhI_.same rfl rfl, qhB_.same rfl rfl, qhW_.same rfl rfl, qhZ.same rfl rfl⟩, va_recv hY.2.1 (hY.P hS) (ci := 6) (q0 := 0) rfl rfl, fun U hU hW => ⟨rfl, by rw [hU], by rw [hU]; exact hPc, va_K.moved hW.alike hKc, hDc.weaken (fun _ _ _ _ => trivial), hI_.call hS hU hW (fun q h => hFc q h), hB_.call hS hU hW (fun q h => hFc q h), hW_.call hS hU hW (fun q h => hFc q h), hY.call hS hU hW (fun q h => hFc q h)⟩⟩ rfl rfl hl.1 rfl (lv_room (Nat.le_of_ble_eq_true rfl)) dX11_act_59 ⟨Nat.le_of_ble_eq_true rfl, Nat.le_of_ble_eq_true rfl⟩) hS (fun q _ h => hFc q h) hFc (fun r_30 u tC H1 locs htC hvm hw_31 hB hz1 hk1 hS => ?_)
        obtain ⟨mdc9_32, aEl9_33, cEl9_34, sz_9_35, fEl9_36⟩ := u
        try dsimp only at hw_31 hB
        obtain ⟨hP1, hK1, hD1⟩ := hB
        rw [htC] at hP1
        have hK1 := va_K.moved hvm.symm hK1
        obtain ⟨hP, hD⟩ := va_join (wr := [(h0, .inr (13, [.ref sc, .ref kp, .int ik, .ref bl, .ref go, .ref ch, .ref bo])), (sc, .inr (10, [.ref aTp, .int (nI ts), .ref aHl, .int (nI nh), .long ed, .int mi, .int sn, .ref aHs, .int (nI n), .ref aWk, .int (nI wz), .ref aBk, .int (nI bz), .ref aFc])), (aHs, .inl (cHs, 8, .inr (.inr (.inr (.inr fHs)))))]) (w1 := [(bo, .inr (1, [.int mdc9_32, .ref aEl9_33, .int (nI sz_9_35)])), (aEl9_33, .inl (cEl9_34, 10, .inr (.inr (.inr (.inr fEl9_36)))))]) hP hD [3] [0, 1, 2] rfl rfl (by decide) (by decide) hk1 hFc hP1 hD1
        have hK := (hK.sub (tys' := [(cHs, .object "MistHeaps$Heap")]) [0] rfl).app hK1
        generalize H1 = H at hP hS ⊢
        have hP : va_P (dC, dI) vwCl [(h0, .inr (13, [.ref sc, .ref kp, .int ik, .ref bl, .ref go, .ref ch, .ref bo])), (sc, .inr (10, [.ref aTp, .int (nI ts), .ref aHl, .int (nI nh), .long ed, .int mi, .int sn, .ref aHs, .int (nI n), .ref aWk, .int (nI wz), .ref aBk, .int (nI bz), .ref aFc])), (aHs, .inl (cHs, 8, .inr (.inr (.inr (.inr fHs))))), (bo, .inr (1, [.int mdc9_32, .ref aEl9_33, .int (nI sz_9_35)])), (aEl9_33, .inl (cEl9_34, 10, .inr (.inr (.inr (.inr fEl9_36)))))] H := hP
        have hD : va_D A [(h0, .inr (13, [.ref sc, .ref kp, .int ik, .ref bl, .ref go, .ref ch, .ref bo])), (sc, .inr (10, [.ref aTp, .int (nI ts), .ref aHl, .int (nI nh), .long ed, .int mi, .int sn, .ref aHs, .int (nI n), .ref aWk, .int (nI wz), .ref aBk, .int (nI bz), .ref aFc])), (aHs, .inl (cHs, 8, .inr (.inr (.inr (.inr fHs))))), (bo, .inr (1, [.int mdc9_32, .ref aEl9_33, .int (nI sz_9_35)])), (aEl9_33, .inl (cEl9_34, 10, .inr (.inr (.inr (.inr fEl9_36)))))] := hD
        have hK : va_K (dC, dI) vwCl [(cHs, .object "MistHeaps$Heap"), (cEl9_34, .object "java/lang/Object")] s := hK
        refine W.widen (k := 1) (n := 10) (by omega) (by omega) ?_
        obtain ⟨h_37, hL_38⟩ := hw_31
        rw [hQ]
        have hP9 := hP.sub (ws' := [(h0, .inr (13, [.ref sc, .ref kp, .int ik, .ref bl, .ref go, .ref ch, .ref bo])), (sc, .inr (10, [.ref aTp, .int (nI ts), .ref aHl, .int (nI nh), .long ed, .int mi, .int sn, .ref aHs, .int (nI n), .ref aWk, .int (nI wz), .ref aBk, .int (nI bz), .ref aFc])), (aHs, .inl (cHs, 8, .inr (.inr (.inr (.inr fHs))))), (bo, .inr (1, [.int mdc9_32, .ref aEl9_33, .int (nI sz_9_35)])), (aEl9_33, .inl (cEl9_34, 10, .inr (.inr (.inr (.inr fEl9_36)))))]) [0, 1, 2, 3, 4] rfl
        have hD9 := hD.sub (ws' := [(h0, .inr (13, [.ref sc, .ref kp, .int ik, .ref bl, .ref go, .ref ch, .ref bo])), (sc, .inr (10, [.ref aTp, .int (nI ts), .ref aHl, .int (nI nh), .long ed, .int mi, .int sn, .ref aHs, .int (nI n), .ref aWk, .int (nI wz), .ref aBk, .int (nI bz), .ref aFc])), (aHs, .inl (cHs, 8, .inr (.inr (.inr (.inr fHs))))), (bo, .inr (1, [.int mdc9_32, .ref aEl9_33, .int (nI sz_9_35)])), (aEl9_33, .inl (cEl9_34, 10, .inr (.inr (.inr (.inr fEl9_36)))))]) [0, 1, 2, 3, 4] (by decide) rfl
        have hK9 := hK.sub (tys' := [(cHs, .object "MistHeaps$Heap"), (cEl9_34, .object "java/lang/Object")]) [0, 1] rfl
        refine W.widen (k := 1) (n := 10) (by omega) (by omega) ?_
        exact W.iret (v := r_30) hx hb hr (fun tQ htQ hWQ => ⟨⟨r_30, ([(bo, .inr (1, [.int mdc9_32, .ref aEl9_33, .int (nI sz_9_35)])), (aEl9_33, .inl (cEl9_34, 10, .inr (.inr (.inr (.inr fEl9_36)))))], [(cEl9_34, .object "java/lang/Object")]), rfl, Or.inr ⟨_, _, _, _, _, rfl, rfl, by omega, hL_38⟩, by rw [htQ]; exact hP9, va_K.moved hWQ.alike hK9, hD9⟩, hS.F htQ⟩) hS.2.2 dX11_act_62
      · skip
        have hY : Fz dC dI [((ya j_6), .inr (8, [.int (yk j_6), .int (nI j_6), .int (yv j_6), .int (yc j_6)]))] [] A s := by have h9 := (hH_ j_6 (by omega)).2; rw [hpE, e_11] at h9; exact h9
        have hPc := hP.sub (ws' := [(bo, .inr (1, [.int mdc9_3, .ref bS, .int 0]))]) [3] rfl
        have hDc := hD.sub (ws' := [(bo, .inr (1, [.int mdc9_3, .ref bS, .int 0]))]) [3] (by decide) rfl
        have hKc := hK.sub (tys' := []) [] rfl
        have hFc := va_free (wc := [(bo, .inr (1, [.int mdc9_3, .ref bS, .int 0]))]) hD hS hA [3] rfl
        refine va_calli (va_runU (As := [.int z, .ref bo]) (rest := []) ⟨hx, hb, hml, hown, hts⟩ (c_X3_doSees_X6_0 l dC dI ad cB bS    bo j_6 (yk j_6) (yv j_6) (yc j_6) z (ya j_6) mdc9_3 H.size) (va_cwU 2 hts gX11_act_X3_doSees_u233X6 rfl rfl rfl rfl (by decide +kernel) ⟨Nat.le_of_ble_eq_true rfl, Nat.le_of_ble_eq_true rfl⟩) ⟨fun a U g mk q => by obtain ⟨q0, q1, qP, qK, qD, qhI_, qhB_, qhW_, qhZ⟩ := q; exact ⟨q0, q1, qP, va_K.moved (u := U) (U := U.calling g mk a) (Vm.Alike.refl U.vm) qK, qD, qhI_.same rfl rfl, qhB_.same rfl rfl, qhW_.same rfl rfl, qhZ.same rfl rfl⟩, va_recv hY.2.1 (hY.P hS) (ci := 8) (q0 := 0) rfl rfl, fun U hU hW => ⟨rfl, by rw [hU], by rw [hU]; exact hPc, va_K.moved hW.alike hKc, hDc.weaken (fun _ _ _ _ => trivial), hI_.call hS hU hW (fun q h => hFc q h), hB_.call hS hU hW (fun q h => hFc q h), hW_.call hS hU hW (fun q h => hFc q h), hY.call hS hU hW (fun q h => hFc q h)⟩⟩ rfl rfl hl.1 rfl (lv_room (Nat.le_of_ble_eq_true rfl)) dX11_act_59 ⟨Nat.le_of_ble_eq_true rfl, Nat.le_of_ble_eq_true rfl⟩) hS (fun q _ h => hFc q h) hFc (fun r_39 u tC H1 locs htC hvm hw_40 hB hz1 hk1 hS => ?_)
        obtain ⟨mdc9_41, aEl9_42, cEl9_43, sz_9_44, fEl9_45⟩ := u
        try dsimp only at hw_40 hB
        obtain ⟨hP1, hK1, hD1⟩ := hB
        rw [htC] at hP1
        have hK1 := va_K.moved hvm.symm hK1
        obtain ⟨hP, hD⟩ := va_join (wr := [(h0, .inr (13, [.ref sc, .ref kp, .int ik, .ref bl, .ref go, .ref ch, .ref bo])), (sc, .inr (10, [.ref aTp, .int (nI ts), .ref aHl, .int (nI nh), .long ed, .int mi, .int sn, .ref aHs, .int (nI n), .ref aWk, .int (nI wz), .ref aBk, .int (nI bz), .ref aFc])), (aHs, .inl (cHs, 8, .inr (.inr (.inr (.inr fHs)))))]) (w1 := [(bo, .inr (1, [.int mdc9_41, .ref aEl9_42, .int (nI sz_9_44)])), (aEl9_42, .inl (cEl9_43, 10, .inr (.inr (.inr (.inr fEl9_45)))))]) hP hD [3] [0, 1, 2] rfl rfl (by decide) (by decide) hk1 hFc hP1 hD1
        have hK := (hK.sub (tys' := [(cHs, .object "MistHeaps$Heap")]) [0] rfl).app hK1
        generalize H1 = H at hP hS ⊢
        have hP : va_P (dC, dI) vwCl [(h0, .inr (13, [.ref sc, .ref kp, .int ik, .ref bl, .ref go, .ref ch, .ref bo])), (sc, .inr (10, [.ref aTp, .int (nI ts), .ref aHl, .int (nI nh), .long ed, .int mi, .int sn, .ref aHs, .int (nI n), .ref aWk, .int (nI wz), .ref aBk, .int (nI bz), .ref aFc])), (aHs, .inl (cHs, 8, .inr (.inr (.inr (.inr fHs))))), (bo, .inr (1, [.int mdc9_41, .ref aEl9_42, .int (nI sz_9_44)])), (aEl9_42, .inl (cEl9_43, 10, .inr (.inr (.inr (.inr fEl9_45)))))] H := hP
        have hD : va_D A [(h0, .inr (13, [.ref sc, .ref kp, .int ik, .ref bl, .ref go, .ref ch, .ref bo])), (sc, .inr (10, [.ref aTp, .int (nI ts), .ref aHl, .int (nI nh), .long ed, .int mi, .int sn, .ref aHs, .int (nI n), .ref aWk, .int (nI wz), .ref aBk, .int (nI bz), .ref aFc])), (aHs, .inl (cHs, 8, .inr (.inr (.inr (.inr fHs))))), (bo, .inr (1, [.int mdc9_41, .ref aEl9_42, .int (nI sz_9_44)])), (aEl9_42, .inl (cEl9_43, 10, .inr (.inr (.inr (.inr fEl9_45)))))] := hD
        have hK : va_K (dC, dI) vwCl [(cHs, .object "MistHeaps$Heap"), (cEl9_43, .object "java/lang/Object")] s := hK
        refine W.widen (k := 1) (n := 10) (by omega) (by omega) ?_
        obtain ⟨h_46, hL_47⟩ := hw_40
        rw [hQ]
        have hP9 := hP.sub (ws' := [(h0, .inr (13, [.ref sc, .ref kp, .int ik, .ref bl, .ref go, .ref ch, .ref bo])), (sc, .inr (10, [.ref aTp, .int (nI ts), .ref aHl, .int (nI nh), .long ed, .int mi, .int sn, .ref aHs, .int (nI n), .ref aWk, .int (nI wz), .ref aBk, .int (nI bz), .ref aFc])), (aHs, .inl (cHs, 8, .inr (.inr (.inr (.inr fHs))))), (bo, .inr (1, [.int mdc9_41, .ref aEl9_42, .int (nI sz_9_44)])), (aEl9_42, .inl (cEl9_43, 10, .inr (.inr (.inr (.inr fEl9_45)))))]) [0, 1, 2, 3, 4] rfl
        have hD9 := hD.sub (ws' := [(h0, .inr (13, [.ref sc, .ref kp, .int ik, .ref bl, .ref go, .ref ch, .ref bo])), (sc, .inr (10, [.ref aTp, .int (nI ts), .ref aHl, .int (nI nh), .long ed, .int mi, .int sn, .ref aHs, .int (nI n), .ref aWk, .int (nI wz), .ref aBk, .int (nI bz), .ref aFc])), (aHs, .inl (cHs, 8, .inr (.inr (.inr (.inr fHs))))), (bo, .inr (1, [.int mdc9_41, .ref aEl9_42, .int (nI sz_9_44)])), (aEl9_42, .inl (cEl9_43, 10, .inr (.inr (.inr (.inr fEl9_45)))))]) [0, 1, 2, 3, 4] (by decide) rfl
        have hK9 := hK.sub (tys' := [(cHs, .object "MistHeaps$Heap"), (cEl9_43, .object "java/lang/Object")]) [0, 1] rfl
        refine W.widen (k := 1) (n := 10) (by omega) (by omega) ?_
        exact W.iret (v := r_39) hx hb hr (fun tQ htQ hWQ => ⟨⟨r_39, ([(bo, .inr (1, [.int mdc9_41, .ref aEl9_42, .int (nI sz_9_44)])), (aEl9_42, .inl (cEl9_43, 10, .inr (.inr (.inr (.inr fEl9_45)))))], [(cEl9_43, .object "java/lang/Object")]), rfl, Or.inr ⟨_, _, _, _, _, rfl, rfl, by omega, hL_47⟩, by rw [htQ]; exact hP9, va_K.moved hWQ.alike hK9, hD9⟩, hS.F htQ⟩) hS.2.2 dX11_act_62
      · skip
        have hY : Fz dC dI [((ya j_6), .inr (9, [.int (yk j_6), .int (nI j_6), .int (yv j_6), .int (yc j_6)]))] [] A s := by have h9 := (hH_ j_6 (by omega)).2; rw [hpE, e_11] at h9; exact h9
        have hPc := hP.sub (ws' := [(bo, .inr (1, [.int mdc9_3, .ref bS, .int 0]))]) [3] rfl
        have hDc := hD.sub (ws' := [(bo, .inr (1, [.int mdc9_3, .ref bS, .int 0]))]) [3] (by decide) rfl
        have hKc := hK.sub (tys' := []) [] rfl
        have hFc := va_free (wc := [(bo, .inr (1, [.int mdc9_3, .ref bS, .int 0]))]) hD hS hA [3] rfl
        refine va_calli (va_runU (As := [.int z, .ref bo]) (rest := []) ⟨hx, hb, hml, hown, hts⟩ (c_X3_doSees_X7_0 l dC dI ad cB bS    bo j_6 (yk j_6) (yv j_6) (yc j_6) z (ya j_6) mdc9_3 H.size) (va_cwU 2 hts gX11_act_X3_doSees_u233X7 rfl rfl rfl rfl (by decide +kernel) ⟨Nat.le_of_ble_eq_true rfl, Nat.le_of_ble_eq_true rfl⟩) ⟨fun a U g mk q => by obtain ⟨q0, q1, qP, qK, qD, qhI_, qhB_, qhW_, qhZ⟩ := q; exact ⟨q0, q1, qP, va_K.moved (u := U) (U := U.calling g mk a) (Vm.Alike.refl U.vm) qK, qD, qhI_.same rfl rfl, qhB_.same rfl rfl, qhW_.same rfl rfl, qhZ.same rfl rfl⟩, va_recv hY.2.1 (hY.P hS) (ci := 9) (q0 := 0) rfl rfl, fun U hU hW => ⟨rfl, by rw [hU], by rw [hU]; exact hPc, va_K.moved hW.alike hKc, hDc.weaken (fun _ _ _ _ => trivial), hI_.call hS hU hW (fun q h => hFc q h), hB_.call hS hU hW (fun q h => hFc q h), hW_.call hS hU hW (fun q h => hFc q h), hY.call hS hU hW (fun q h => hFc q h)⟩⟩ rfl rfl hl.1 rfl (lv_room (Nat.le_of_ble_eq_true rfl)) dX11_act_59 ⟨Nat.le_of_ble_eq_true rfl, Nat.le_of_ble_eq_true rfl⟩) hS (fun q _ h => hFc q h) hFc (fun r_48 u tC H1 locs htC hvm hw_49 hB hz1 hk1 hS => ?_)
        obtain ⟨mdc9_50, aEl9_51, cEl9_52, sz_9_53, fEl9_54⟩ := u
        try dsimp only at hw_49 hB
        obtain ⟨hP1, hK1, hD1⟩ := hB
        rw [htC] at hP1
        have hK1 := va_K.moved hvm.symm hK1
        obtain ⟨hP, hD⟩ := va_join (wr := [(h0, .inr (13, [.ref sc, .ref kp, .int ik, .ref bl, .ref go, .ref ch, .ref bo])), (sc, .inr (10, [.ref aTp, .int (nI ts), .ref aHl, .int (nI nh), .long ed, .int mi, .int sn, .ref aHs, .int (nI n), .ref aWk, .int (nI wz), .ref aBk, .int (nI bz), .ref aFc])), (aHs, .inl (cHs, 8, .inr (.inr (.inr (.inr fHs)))))]) (w1 := [(bo, .inr (1, [.int mdc9_50, .ref aEl9_51, .int (nI sz_9_53)])), (aEl9_51, .inl (cEl9_52, 10, .inr (.inr (.inr (.inr fEl9_54)))))]) hP hD [3] [0, 1, 2] rfl rfl (by decide) (by decide) hk1 hFc hP1 hD1
        have hK := (hK.sub (tys' := [(cHs, .object "MistHeaps$Heap")]) [0] rfl).app hK1
        generalize H1 = H at hP hS ⊢
        have hP : va_P (dC, dI) vwCl [(h0, .inr (13, [.ref sc, .ref kp, .int ik, .ref bl, .ref go, .ref ch, .ref bo])), (sc, .inr (10, [.ref aTp, .int (nI ts), .ref aHl, .int (nI nh), .long ed, .int mi, .int sn, .ref aHs, .int (nI n), .ref aWk, .int (nI wz), .ref aBk, .int (nI bz), .ref aFc])), (aHs, .inl (cHs, 8, .inr (.inr (.inr (.inr fHs))))), (bo, .inr (1, [.int mdc9_50, .ref aEl9_51, .int (nI sz_9_53)])), (aEl9_51, .inl (cEl9_52, 10, .inr (.inr (.inr (.inr fEl9_54)))))] H := hP
        have hD : va_D A [(h0, .inr (13, [.ref sc, .ref kp, .int ik, .ref bl, .ref go, .ref ch, .ref bo])), (sc, .inr (10, [.ref aTp, .int (nI ts), .ref aHl, .int (nI nh), .long ed, .int mi, .int sn, .ref aHs, .int (nI n), .ref aWk, .int (nI wz), .ref aBk, .int (nI bz), .ref aFc])), (aHs, .inl (cHs, 8, .inr (.inr (.inr (.inr fHs))))), (bo, .inr (1, [.int mdc9_50, .ref aEl9_51, .int (nI sz_9_53)])), (aEl9_51, .inl (cEl9_52, 10, .inr (.inr (.inr (.inr fEl9_54)))))] := hD
        have hK : va_K (dC, dI) vwCl [(cHs, .object "MistHeaps$Heap"), (cEl9_52, .object "java/lang/Object")] s := hK
        refine W.widen (k := 1) (n := 10) (by omega) (by omega) ?_
        obtain ⟨h_55, hL_56⟩ := hw_49
        rw [hQ]
        have hP9 := hP.sub (ws' := [(h0, .inr (13, [.ref sc, .ref kp, .int ik, .ref bl, .ref go, .ref ch, .ref bo])), (sc, .inr (10, [.ref aTp, .int (nI ts), .ref aHl, .int (nI nh), .long ed, .int mi, .int sn, .ref aHs, .int (nI n), .ref aWk, .int (nI wz), .ref aBk, .int (nI bz), .ref aFc])), (aHs, .inl (cHs, 8, .inr (.inr (.inr (.inr fHs))))), (bo, .inr (1, [.int mdc9_50, .ref aEl9_51, .int (nI sz_9_53)])), (aEl9_51, .inl (cEl9_52, 10, .inr (.inr (.inr (.inr fEl9_54)))))]) [0, 1, 2, 3, 4] rfl
        have hD9 := hD.sub (ws' := [(h0, .inr (13, [.ref sc, .ref kp, .int ik, .ref bl, .ref go, .ref ch, .ref bo])), (sc, .inr (10, [.ref aTp, .int (nI ts), .ref aHl, .int (nI nh), .long ed, .int mi, .int sn, .ref aHs, .int (nI n), .ref aWk, .int (nI wz), .ref aBk, .int (nI bz), .ref aFc])), (aHs, .inl (cHs, 8, .inr (.inr (.inr (.inr fHs))))), (bo, .inr (1, [.int mdc9_50, .ref aEl9_51, .int (nI sz_9_53)])), (aEl9_51, .inl (cEl9_52, 10, .inr (.inr (.inr (.inr fEl9_54)))))]) [0, 1, 2, 3, 4] (by decide) rfl
        have hK9 := hK.sub (tys' := [(cHs, .object "MistHeaps$Heap"), (cEl9_52, .object "java/lang/Object")]) [0, 1] rfl
        refine W.widen (k := 1) (n := 10) (by omega) (by omega) ?_
        exact W.iret (v := r_48) hx hb hr (fun tQ htQ hWQ => ⟨⟨r_48, ([(bo, .inr (1, [.int mdc9_50, .ref aEl9_51, .int (nI sz_9_53)])), (aEl9_51, .inl (cEl9_52, 10, .inr (.inr (.inr (.inr fEl9_54)))))], [(cEl9_52, .object "java/lang/Object")]), rfl, Or.inr ⟨_, _, _, _, _, rfl, rfl, by omega, hL_56⟩, by rw [htQ]; exact hP9, va_K.moved hWQ.alike hK9, hD9⟩, hS.F htQ⟩) hS.2.2 dX11_act_62
      · skip
        have hY : Fz dC dI [((ya j_6), .inr (11, [.int (yk j_6), .int (nI j_6), .int (yv j_6), .int (yc j_6)]))] [] A s := by have h9 := (hH_ j_6 (by omega)).2; rw [hpE, e_11] at h9; exact h9
        have hPc := hP.sub (ws' := [(bo, .inr (1, [.int mdc9_3, .ref bS, .int 0]))]) [3] rfl
        have hDc := hD.sub (ws' := [(bo, .inr (1, [.int mdc9_3, .ref bS, .int 0]))]) [3] (by decide) rfl
        have hKc := hK.sub (tys' := []) [] rfl
        have hFc := va_free (wc := [(bo, .inr (1, [.int mdc9_3, .ref bS, .int 0]))]) hD hS hA [3] rfl
        refine va_calli (va_runU (As := [.int z, .ref bo]) (rest := []) ⟨hx, hb, hml, hown, hts⟩ (c_X9_doSees_X9_0 l dC dI ad cB bS    bo j_6 (yk j_6) (yv j_6) (yc j_6) z (ya j_6) mdc9_3 H.size) (va_cwO 2 hts gX11_act_X9_doSees_u233X9 rfl rfl rfl kc_xAct0_3 (by decide +kernel) ⟨Nat.le_of_ble_eq_true rfl, Nat.le_of_ble_eq_true rfl⟩) ⟨fun a U g mk q => by obtain ⟨q0, q1, qP, qK, qD, qhI_, qhB_, qhW_, qhZ⟩ := q; exact ⟨q0, q1, qP, va_K.moved (u := U) (U := U.calling g mk a) (Vm.Alike.refl U.vm) qK, qD, qhI_.same rfl rfl, qhB_.same rfl rfl, qhW_.same rfl rfl, qhZ.same rfl rfl⟩, va_recv hY.2.1 (hY.P hS) (ci := 11) (q0 := 0) rfl rfl, fun U hU hW => ⟨rfl, by rw [hU], by rw [hU]; exact hPc, va_K.moved hW.alike hKc, hDc.weaken (fun _ _ _ _ => trivial), hI_.call hS hU hW (fun q h => hFc q h), hB_.call hS hU hW (fun q h => hFc q h), hW_.call hS hU hW (fun q h => hFc q h), hY.call hS hU hW (fun q h => hFc q h)⟩⟩ rfl rfl hl.1 rfl (lv_room (Nat.le_of_ble_eq_true rfl)) dX11_act_59 ⟨Nat.le_of_ble_eq_true rfl, Nat.le_of_ble_eq_true rfl⟩) hS (fun q _ h => hFc q h) hFc (fun r_57 u tC H1 locs htC hvm hw_58 hB hz1 hk1 hS => ?_)
        obtain ⟨mdc9_59, aEl9_60, cEl9_61, sz_9_62, fEl9_63⟩ := u
        try dsimp only at hw_58 hB
        obtain ⟨hP1, hK1, hD1⟩ := hB
        rw [htC] at hP1
        have hK1 := va_K.moved hvm.symm hK1
        obtain ⟨hP, hD⟩ := va_join (wr := [(h0, .inr (13, [.ref sc, .ref kp, .int ik, .ref bl, .ref go, .ref ch, .ref bo])), (sc, .inr (10, [.ref aTp, .int (nI ts), .ref aHl, .int (nI nh), .long ed, .int mi, .int sn, .ref aHs, .int (nI n), .ref aWk, .int (nI wz), .ref aBk, .int (nI bz), .ref aFc])), (aHs, .inl (cHs, 8, .inr (.inr (.inr (.inr fHs)))))]) (w1 := [(bo, .inr (1, [.int mdc9_59, .ref aEl9_60, .int (nI sz_9_62)])), (aEl9_60, .inl (cEl9_61, 10, .inr (.inr (.inr (.inr fEl9_63)))))]) hP hD [3] [0, 1, 2] rfl rfl (by decide) (by decide) hk1 hFc hP1 hD1
        have hK := (hK.sub (tys' := [(cHs, .object "MistHeaps$Heap")]) [0] rfl).app hK1
        generalize H1 = H at hP hS ⊢
        have hP : va_P (dC, dI) vwCl [(h0, .inr (13, [.ref sc, .ref kp, .int ik, .ref bl, .ref go, .ref ch, .ref bo])), (sc, .inr (10, [.ref aTp, .int (nI ts), .ref aHl, .int (nI nh), .long ed, .int mi, .int sn, .ref aHs, .int (nI n), .ref aWk, .int (nI wz), .ref aBk, .int (nI bz), .ref aFc])), (aHs, .inl (cHs, 8, .inr (.inr (.inr (.inr fHs))))), (bo, .inr (1, [.int mdc9_59, .ref aEl9_60, .int (nI sz_9_62)])), (aEl9_60, .inl (cEl9_61, 10, .inr (.inr (.inr (.inr fEl9_63)))))] H := hP
        have hD : va_D A [(h0, .inr (13, [.ref sc, .ref kp, .int ik, .ref bl, .ref go, .ref ch, .ref bo])), (sc, .inr (10, [.ref aTp, .int (nI ts), .ref aHl, .int (nI nh), .long ed, .int mi, .int sn, .ref aHs, .int (nI n), .ref aWk, .int (nI wz), .ref aBk, .int (nI bz), .ref aFc])), (aHs, .inl (cHs, 8, .inr (.inr (.inr (.inr fHs))))), (bo, .inr (1, [.int mdc9_59, .ref aEl9_60, .int (nI sz_9_62)])), (aEl9_60, .inl (cEl9_61, 10, .inr (.inr (.inr (.inr fEl9_63)))))] := hD
        have hK : va_K (dC, dI) vwCl [(cHs, .object "MistHeaps$Heap"), (cEl9_61, .object "java/lang/Object")] s := hK
        refine W.widen (k := 1) (n := 10) (by omega) (by omega) ?_
        obtain ⟨h_64, hL_65⟩ := hw_58
        rw [hQ]
        have hP9 := hP.sub (ws' := [(h0, .inr (13, [.ref sc, .ref kp, .int ik, .ref bl, .ref go, .ref ch, .ref bo])), (sc, .inr (10, [.ref aTp, .int (nI ts), .ref aHl, .int (nI nh), .long ed, .int mi, .int sn, .ref aHs, .int (nI n), .ref aWk, .int (nI wz), .ref aBk, .int (nI bz), .ref aFc])), (aHs, .inl (cHs, 8, .inr (.inr (.inr (.inr fHs))))), (bo, .inr (1, [.int mdc9_59, .ref aEl9_60, .int (nI sz_9_62)])), (aEl9_60, .inl (cEl9_61, 10, .inr (.inr (.inr (.inr fEl9_63)))))]) [0, 1, 2, 3, 4] rfl
        have hD9 := hD.sub (ws' := [(h0, .inr (13, [.ref sc, .ref kp, .int ik, .ref bl, .ref go, .ref ch, .ref bo])), (sc, .inr (10, [.ref aTp, .int (nI ts), .ref aHl, .int (nI nh), .long ed, .int mi, .int sn, .ref aHs, .int (nI n), .ref aWk, .int (nI wz), .ref aBk, .int (nI bz), .ref aFc])), (aHs, .inl (cHs, 8, .inr (.inr (.inr (.inr fHs))))), (bo, .inr (1, [.int mdc9_59, .ref aEl9_60, .int (nI sz_9_62)])), (aEl9_60, .inl (cEl9_61, 10, .inr (.inr (.inr (.inr fEl9_63)))))]) [0, 1, 2, 3, 4] (by decide) rfl
        have hK9 := hK.sub (tys' := [(cHs, .object "MistHeaps$Heap"), (cEl9_61, .object "java/lang/Object")]) [0, 1] rfl
        refine W.widen (k := 1) (n := 10) (by omega) (by omega) ?_
        exact W.iret (v := r_57) hx hb hr (fun tQ htQ hWQ => ⟨⟨r_57, ([(bo, .inr (1, [.int mdc9_59, .ref aEl9_60, .int (nI sz_9_62)])), (aEl9_60, .inl (cEl9_61, 10, .inr (.inr (.inr (.inr fEl9_63)))))], [(cEl9_61, .object "java/lang/Object")]), rfl, Or.inr ⟨_, _, _, _, _, rfl, rfl, by omega, hL_65⟩, by rw [htQ]; exact hP9, va_K.moved hWQ.alike hK9, hD9⟩, hS.F htQ⟩) hS.2.2 dX11_act_62
      · skip
        have hY : Fz dC dI [((ya j_6), .inr (12, [.int (yk j_6), .int (nI j_6), .int (yv j_6), .int (yc j_6)]))] [] A s := by have h9 := (hH_ j_6 (by omega)).2; rw [hpE, e_11] at h9; exact h9
        have hPc := hP.sub (ws' := [(bo, .inr (1, [.int mdc9_3, .ref bS, .int 0]))]) [3] rfl
        have hDc := hD.sub (ws' := [(bo, .inr (1, [.int mdc9_3, .ref bS, .int 0]))]) [3] (by decide) rfl
        have hKc := hK.sub (tys' := []) [] rfl
        have hFc := va_free (wc := [(bo, .inr (1, [.int mdc9_3, .ref bS, .int 0]))]) hD hS hA [3] rfl
        refine va_calli (va_runU (As := [.int z, .ref bo]) (rest := []) ⟨hx, hb, hml, hown, hts⟩ (c_X4_doSees_X10_0 l dC dI ad cB bS    bo j_6 (yk j_6) (yv j_6) (yc j_6) z (ya j_6) mdc9_3 H.size) (va_cwO 2 hts gX11_act_X4_doSees_u233X10 rfl rfl rfl kc_xAct0_3 (by decide +kernel) ⟨Nat.le_of_ble_eq_true rfl, Nat.le_of_ble_eq_true rfl⟩) ⟨fun a U g mk q => by obtain ⟨q0, q1, qP, qK, qD, qhI_, qhB_, qhW_, qhZ⟩ := q; exact ⟨q0, q1, qP, va_K.moved (u := U) (U := U.calling g mk a) (Vm.Alike.refl U.vm) qK, qD, qhI_.same rfl rfl, qhB_.same rfl rfl, qhW_.same rfl rfl, qhZ.same rfl rfl⟩, va_recv hY.2.1 (hY.P hS) (ci := 12) (q0 := 0) rfl rfl, fun U hU hW => ⟨rfl, by rw [hU], by rw [hU]; exact hPc, va_K.moved hW.alike hKc, hDc.weaken (fun _ _ _ _ => trivial), hI_.call hS hU hW (fun q h => hFc q h), hB_.call hS hU hW (fun q h => hFc q h), hW_.call hS hU hW (fun q h => hFc q h), hY.call hS hU hW (fun q h => hFc q h)⟩⟩ rfl rfl hl.1 rfl (lv_room (Nat.le_of_ble_eq_true rfl)) dX11_act_59 ⟨Nat.le_of_ble_eq_true rfl, Nat.le_of_ble_eq_true rfl⟩) hS (fun q _ h => hFc q h) hFc (fun r_66 u tC H1 locs htC hvm hw_67 hB hz1 hk1 hS => ?_)
        obtain ⟨mdc9_68, aEl9_69, cEl9_70, sz_9_71, fEl9_72⟩ := u
        try dsimp only at hw_67 hB
        obtain ⟨hP1, hK1, hD1⟩ := hB
        rw [htC] at hP1
        have hK1 := va_K.moved hvm.symm hK1
        obtain ⟨hP, hD⟩ := va_join (wr := [(h0, .inr (13, [.ref sc, .ref kp, .int ik, .ref bl, .ref go, .ref ch, .ref bo])), (sc, .inr (10, [.ref aTp, .int (nI ts), .ref aHl, .int (nI nh), .long ed, .int mi, .int sn, .ref aHs, .int (nI n), .ref aWk, .int (nI wz), .ref aBk, .int (nI bz), .ref aFc])), (aHs, .inl (cHs, 8, .inr (.inr (.inr (.inr fHs)))))]) (w1 := [(bo, .inr (1, [.int mdc9_68, .ref aEl9_69, .int (nI sz_9_71)])), (aEl9_69, .inl (cEl9_70, 10, .inr (.inr (.inr (.inr fEl9_72)))))]) hP hD [3] [0, 1, 2] rfl rfl (by decide) (by decide) hk1 hFc hP1 hD1
        have hK := (hK.sub (tys' := [(cHs, .object "MistHeaps$Heap")]) [0] rfl).app hK1
        generalize H1 = H at hP hS ⊢
        have hP : va_P (dC, dI) vwCl [(h0, .inr (13, [.ref sc, .ref kp, .int ik, .ref bl, .ref go, .ref ch, .ref bo])), (sc, .inr (10, [.ref aTp, .int (nI ts), .ref aHl, .int (nI nh), .long ed, .int mi, .int sn, .ref aHs, .int (nI n), .ref aWk, .int (nI wz), .ref aBk, .int (nI bz), .ref aFc])), (aHs, .inl (cHs, 8, .inr (.inr (.inr (.inr fHs))))), (bo, .inr (1, [.int mdc9_68, .ref aEl9_69, .int (nI sz_9_71)])), (aEl9_69, .inl (cEl9_70, 10, .inr (.inr (.inr (.inr fEl9_72)))))] H := hP
        have hD : va_D A [(h0, .inr (13, [.ref sc, .ref kp, .int ik, .ref bl, .ref go, .ref ch, .ref bo])), (sc, .inr (10, [.ref aTp, .int (nI ts), .ref aHl, .int (nI nh), .long ed, .int mi, .int sn, .ref aHs, .int (nI n), .ref aWk, .int (nI wz), .ref aBk, .int (nI bz), .ref aFc])), (aHs, .inl (cHs, 8, .inr (.inr (.inr (.inr fHs))))), (bo, .inr (1, [.int mdc9_68, .ref aEl9_69, .int (nI sz_9_71)])), (aEl9_69, .inl (cEl9_70, 10, .inr (.inr (.inr (.inr fEl9_72)))))] := hD
        have hK : va_K (dC, dI) vwCl [(cHs, .object "MistHeaps$Heap"), (cEl9_70, .object "java/lang/Object")] s := hK
        refine W.widen (k := 1) (n := 10) (by omega) (by omega) ?_
        obtain ⟨h_73, hL_74⟩ := hw_67
        rw [hQ]
        have hP9 := hP.sub (ws' := [(h0, .inr (13, [.ref sc, .ref kp, .int ik, .ref bl, .ref go, .ref ch, .ref bo])), (sc, .inr (10, [.ref aTp, .int (nI ts), .ref aHl, .int (nI nh), .long ed, .int mi, .int sn, .ref aHs, .int (nI n), .ref aWk, .int (nI wz), .ref aBk, .int (nI bz), .ref aFc])), (aHs, .inl (cHs, 8, .inr (.inr (.inr (.inr fHs))))), (bo, .inr (1, [.int mdc9_68, .ref aEl9_69, .int (nI sz_9_71)])), (aEl9_69, .inl (cEl9_70, 10, .inr (.inr (.inr (.inr fEl9_72)))))]) [0, 1, 2, 3, 4] rfl
        have hD9 := hD.sub (ws' := [(h0, .inr (13, [.ref sc, .ref kp, .int ik, .ref bl, .ref go, .ref ch, .ref bo])), (sc, .inr (10, [.ref aTp, .int (nI ts), .ref aHl, .int (nI nh), .long ed, .int mi, .int sn, .ref aHs, .int (nI n), .ref aWk, .int (nI wz), .ref aBk, .int (nI bz), .ref aFc])), (aHs, .inl (cHs, 8, .inr (.inr (.inr (.inr fHs))))), (bo, .inr (1, [.int mdc9_68, .ref aEl9_69, .int (nI sz_9_71)])), (aEl9_69, .inl (cEl9_70, 10, .inr (.inr (.inr (.inr fEl9_72)))))]) [0, 1, 2, 3, 4] (by decide) rfl
        have hK9 := hK.sub (tys' := [(cHs, .object "MistHeaps$Heap"), (cEl9_70, .object "java/lang/Object")]) [0, 1] rfl
        refine W.widen (k := 1) (n := 10) (by omega) (by omega) ?_
        exact W.iret (v := r_66) hx hb hr (fun tQ htQ hWQ => ⟨⟨r_66, ([(bo, .inr (1, [.int mdc9_68, .ref aEl9_69, .int (nI sz_9_71)])), (aEl9_69, .inl (cEl9_70, 10, .inr (.inr (.inr (.inr fEl9_72)))))], [(cEl9_70, .object "java/lang/Object")]), rfl, Or.inr ⟨_, _, _, _, _, rfl, rfl, by omega, hL_74⟩, by rw [htQ]; exact hP9, va_K.moved hWQ.alike hK9, hD9⟩, hS.F htQ⟩) hS.2.2 dX11_act_62
    by_cases c_10_1 : y = 1
    · skip
      refine lv_tableIn (tgt := 63) hx hb dX11_act_25 (by rw [c_10_1]; decide) (by rw [c_10_1]; decide) (by rw [c_10_1]; rfl) (by decide) ?_
      refine lv_aload hx hb dX11_act_63 (lv_at hl 0 rfl) ?_
      refine lv_iload_n hx hb dX11_act_65 rfl (lv_at hl 4 rfl) ?_
      refine lv_aload_n hx hb dX11_act_66 rfl (lv_at hl 1 rfl) ?_
      refine va_get (D := (dC, dI)) (ci := 13) (v := .ref bo) (C := RX11) (T := TX11) (N := 7) hx hb hts kc_xAct0_0 hown hK hP 0 rfl rfl 6 (by decide) (hts (.fieldLink RX11 49 "MistHeaps" "bodies" "Ljava/util/ArrayList;") kc_xAct0_1) (fun _ h9 => h9) rfl dX11_act_67 ?_
      rcases (show yi j_6 = 3 ∨ yi j_6 = 5 ∨ yi j_6 = 6 ∨ yi j_6 = 8 ∨ yi j_6 = 9 ∨ yi j_6 = 11 ∨ yi j_6 = 12 from (hH_ j_6 (by omega)).1) with e_75 | e_75 | e_75 | e_75 | e_75 | e_75 | e_75
      · skip
        have hY : Fz dC dI [((ya j_6), .inr (3, [.int (yk j_6), .int (nI j_6), .int (yv j_6), .int (yc j_6)]))] [] A s := by have h9 := (hH_ j_6 (by omega)).2; rw [hpE, e_75] at h9; exact h9
        have hPc := hP.sub (ws' := [(bo, .inr (1, [.int mdc9_3, .ref bS, .int 0]))]) [3] rfl
        have hDc := hD.sub (ws' := [(bo, .inr (1, [.int mdc9_3, .ref bS, .int 0]))]) [3] (by decide) rfl
        have hKc := hK.sub (tys' := []) [] rfl
        have hFc := va_free (wc := [(bo, .inr (1, [.int mdc9_3, .ref bS, .int 0]))]) hD hS hA [3] rfl
        refine va_calli (va_runU (As := [.int z, .ref bo]) (rest := []) ⟨hx, hb, hml, hown, hts⟩ (c_X3_doGoes_X1_0 l dC dI ad cB bS    bo j_6 (yk j_6) (yv j_6) (yc j_6) z (ya j_6) mdc9_3 H.size) (va_cwU 2 hts gX11_act_X3_doGoes_u237X1 rfl rfl rfl rfl (by decide +kernel) ⟨Nat.le_of_ble_eq_true rfl, Nat.le_of_ble_eq_true rfl⟩) ⟨fun a U g mk q => by obtain ⟨q0, q1, qP, qK, qD, qhI_, qhB_, qhW_, qhZ⟩ := q; exact ⟨q0, q1, qP, va_K.moved (u := U) (U := U.calling g mk a) (Vm.Alike.refl U.vm) qK, qD, qhI_.same rfl rfl, qhB_.same rfl rfl, qhW_.same rfl rfl, qhZ.same rfl rfl⟩, va_recv hY.2.1 (hY.P hS) (ci := 3) (q0 := 0) rfl rfl, fun U hU hW => ⟨rfl, by rw [hU], by rw [hU]; exact hPc, va_K.moved hW.alike hKc, hDc.weaken (fun _ _ _ _ => trivial), hI_.call hS hU hW (fun q h => hFc q h), hB_.call hS hU hW (fun q h => hFc q h), hW_.call hS hU hW (fun q h => hFc q h), hY.call hS hU hW (fun q h => hFc q h)⟩⟩ rfl rfl hl.1 rfl (lv_room (Nat.le_of_ble_eq_true rfl)) dX11_act_70 ⟨Nat.le_of_ble_eq_true rfl, Nat.le_of_ble_eq_true rfl⟩) hS (fun q _ h => hFc q h) hFc (fun r_76 u tC H1 locs htC hvm hw_77 hB hz1 hk1 hS => ?_)
        obtain ⟨mdc9_78, aEl9_79, cEl9_80, sz_9_81, fEl9_82⟩ := u
        try dsimp only at hw_77 hB
        obtain ⟨hP1, hK1, hD1⟩ := hB
        rw [htC] at hP1
        have hK1 := va_K.moved hvm.symm hK1
        obtain ⟨hP, hD⟩ := va_join (wr := [(h0, .inr (13, [.ref sc, .ref kp, .int ik, .ref bl, .ref go, .ref ch, .ref bo])), (sc, .inr (10, [.ref aTp, .int (nI ts), .ref aHl, .int (nI nh), .long ed, .int mi, .int sn, .ref aHs, .int (nI n), .ref aWk, .int (nI wz), .ref aBk, .int (nI bz), .ref aFc])), (aHs, .inl (cHs, 8, .inr (.inr (.inr (.inr fHs)))))]) (w1 := [(bo, .inr (1, [.int mdc9_78, .ref aEl9_79, .int (nI sz_9_81)])), (aEl9_79, .inl (cEl9_80, 10, .inr (.inr (.inr (.inr fEl9_82)))))]) hP hD [3] [0, 1, 2] rfl rfl (by decide) (by decide) hk1 hFc hP1 hD1
        have hK := (hK.sub (tys' := [(cHs, .object "MistHeaps$Heap")]) [0] rfl).app hK1
        generalize H1 = H at hP hS ⊢
        have hP : va_P (dC, dI) vwCl [(h0, .inr (13, [.ref sc, .ref kp, .int ik, .ref bl, .ref go, .ref ch, .ref bo])), (sc, .inr (10, [.ref aTp, .int (nI ts), .ref aHl, .int (nI nh), .long ed, .int mi, .int sn, .ref aHs, .int (nI n), .ref aWk, .int (nI wz), .ref aBk, .int (nI bz), .ref aFc])), (aHs, .inl (cHs, 8, .inr (.inr (.inr (.inr fHs))))), (bo, .inr (1, [.int mdc9_78, .ref aEl9_79, .int (nI sz_9_81)])), (aEl9_79, .inl (cEl9_80, 10, .inr (.inr (.inr (.inr fEl9_82)))))] H := hP
        have hD : va_D A [(h0, .inr (13, [.ref sc, .ref kp, .int ik, .ref bl, .ref go, .ref ch, .ref bo])), (sc, .inr (10, [.ref aTp, .int (nI ts), .ref aHl, .int (nI nh), .long ed, .int mi, .int sn, .ref aHs, .int (nI n), .ref aWk, .int (nI wz), .ref aBk, .int (nI bz), .ref aFc])), (aHs, .inl (cHs, 8, .inr (.inr (.inr (.inr fHs))))), (bo, .inr (1, [.int mdc9_78, .ref aEl9_79, .int (nI sz_9_81)])), (aEl9_79, .inl (cEl9_80, 10, .inr (.inr (.inr (.inr fEl9_82)))))] := hD
        have hK : va_K (dC, dI) vwCl [(cHs, .object "MistHeaps$Heap"), (cEl9_80, .object "java/lang/Object")] s := hK
        refine W.widen (k := 1) (n := 10) (by omega) (by omega) ?_
        obtain ⟨h_83, hL_84⟩ := hw_77
        rw [hQ]
        have hP9 := hP.sub (ws' := [(h0, .inr (13, [.ref sc, .ref kp, .int ik, .ref bl, .ref go, .ref ch, .ref bo])), (sc, .inr (10, [.ref aTp, .int (nI ts), .ref aHl, .int (nI nh), .long ed, .int mi, .int sn, .ref aHs, .int (nI n), .ref aWk, .int (nI wz), .ref aBk, .int (nI bz), .ref aFc])), (aHs, .inl (cHs, 8, .inr (.inr (.inr (.inr fHs))))), (bo, .inr (1, [.int mdc9_78, .ref aEl9_79, .int (nI sz_9_81)])), (aEl9_79, .inl (cEl9_80, 10, .inr (.inr (.inr (.inr fEl9_82)))))]) [0, 1, 2, 3, 4] rfl
        have hD9 := hD.sub (ws' := [(h0, .inr (13, [.ref sc, .ref kp, .int ik, .ref bl, .ref go, .ref ch, .ref bo])), (sc, .inr (10, [.ref aTp, .int (nI ts), .ref aHl, .int (nI nh), .long ed, .int mi, .int sn, .ref aHs, .int (nI n), .ref aWk, .int (nI wz), .ref aBk, .int (nI bz), .ref aFc])), (aHs, .inl (cHs, 8, .inr (.inr (.inr (.inr fHs))))), (bo, .inr (1, [.int mdc9_78, .ref aEl9_79, .int (nI sz_9_81)])), (aEl9_79, .inl (cEl9_80, 10, .inr (.inr (.inr (.inr fEl9_82)))))]) [0, 1, 2, 3, 4] (by decide) rfl
        have hK9 := hK.sub (tys' := [(cHs, .object "MistHeaps$Heap"), (cEl9_80, .object "java/lang/Object")]) [0, 1] rfl
        refine W.widen (k := 1) (n := 10) (by omega) (by omega) ?_
        exact W.iret (v := r_76) hx hb hr (fun tQ htQ hWQ => ⟨⟨r_76, ([(bo, .inr (1, [.int mdc9_78, .ref aEl9_79, .int (nI sz_9_81)])), (aEl9_79, .inl (cEl9_80, 10, .inr (.inr (.inr (.inr fEl9_82)))))], [(cEl9_80, .object "java/lang/Object")]), rfl, Or.inr ⟨_, _, _, _, _, rfl, rfl, by omega, hL_84⟩, by rw [htQ]; exact hP9, va_K.moved hWQ.alike hK9, hD9⟩, hS.F htQ⟩) hS.2.2 dX11_act_73
      · skip
        have hY : Fz dC dI [((ya j_6), .inr (5, [.int (yk j_6), .int (nI j_6), .int (yv j_6), .int (yc j_6)]))] [] A s := by have h9 := (hH_ j_6 (by omega)).2; rw [hpE, e_75] at h9; exact h9
        have hPc := hP.sub (ws' := [(bo, .inr (1, [.int mdc9_3, .ref bS, .int 0]))]) [3] rfl
        have hDc := hD.sub (ws' := [(bo, .inr (1, [.int mdc9_3, .ref bS, .int 0]))]) [3] (by decide) rfl
        have hKc := hK.sub (tys' := []) [] rfl
        have hFc := va_free (wc := [(bo, .inr (1, [.int mdc9_3, .ref bS, .int 0]))]) hD hS hA [3] rfl
        refine va_calli (va_runV (As := [.int z, .ref bo]) (rest := []) ⟨hx, hb, hml, hown, hts⟩ (c_X3_doGoes_X3_0 l dC dI ad cB bS    bo j_6 (yk j_6) (yv j_6) (yc j_6) z (ya j_6) mdc9_3 H.size) (cwV 2 hts gX11_act_X3_doGoes rfl rfl rfl (by decide +kernel) ⟨Nat.le_of_ble_eq_true rfl, Nat.le_of_ble_eq_true rfl⟩) ⟨fun a U g mk q => by obtain ⟨q0, q1, qP, qK, qD, qhI_, qhB_, qhW_, qhZ⟩ := q; exact ⟨q0, q1, qP, va_K.moved (u := U) (U := U.calling g mk a) (Vm.Alike.refl U.vm) qK, qD, qhI_.same rfl rfl, qhB_.same rfl rfl, qhW_.same rfl rfl, qhZ.same rfl rfl⟩, va_recv hY.2.1 (hY.P hS) (ci := 5) (q0 := 0) rfl rfl, fun U hU hW => ⟨rfl, by rw [hU], by rw [hU]; exact hPc, va_K.moved hW.alike hKc, hDc.weaken (fun _ _ _ _ => trivial), hI_.call hS hU hW (fun q h => hFc q h), hB_.call hS hU hW (fun q h => hFc q h), hW_.call hS hU hW (fun q h => hFc q h), hY.call hS hU hW (fun q h => hFc q h)⟩⟩ rfl rfl hl.1 rfl (lv_room (Nat.le_of_ble_eq_true rfl)) dX11_act_70 ⟨Nat.le_of_ble_eq_true rfl, Nat.le_of_ble_eq_true rfl⟩) hS (fun q _ h => hFc q h) hFc (fun r_85 u tC H1 locs htC hvm hw_86 hB hz1 hk1 hS => ?_)
        obtain ⟨mdc9_87, aEl9_88, cEl9_89, sz_9_90, fEl9_91⟩ := u
        try dsimp only at hw_86 hB
        obtain ⟨hP1, hK1, hD1⟩ := hB
        rw [htC] at hP1
        have hK1 := va_K.moved hvm.symm hK1
        obtain ⟨hP, hD⟩ := va_join (wr := [(h0, .inr (13, [.ref sc, .ref kp, .int ik, .ref bl, .ref go, .ref ch, .ref bo])), (sc, .inr (10, [.ref aTp, .int (nI ts), .ref aHl, .int (nI nh), .long ed, .int mi, .int sn, .ref aHs, .int (nI n), .ref aWk, .int (nI wz), .ref aBk, .int (nI bz), .ref aFc])), (aHs, .inl (cHs, 8, .inr (.inr (.inr (.inr fHs)))))]) (w1 := [(bo, .inr (1, [.int mdc9_87, .ref aEl9_88, .int (nI sz_9_90)])), (aEl9_88, .inl (cEl9_89, 10, .inr (.inr (.inr (.inr fEl9_91)))))]) hP hD [3] [0, 1, 2] rfl rfl (by decide) (by decide) hk1 hFc hP1 hD1
        have hK := (hK.sub (tys' := [(cHs, .object "MistHeaps$Heap")]) [0] rfl).app hK1
        generalize H1 = H at hP hS ⊢
        have hP : va_P (dC, dI) vwCl [(h0, .inr (13, [.ref sc, .ref kp, .int ik, .ref bl, .ref go, .ref ch, .ref bo])), (sc, .inr (10, [.ref aTp, .int (nI ts), .ref aHl, .int (nI nh), .long ed, .int mi, .int sn, .ref aHs, .int (nI n), .ref aWk, .int (nI wz), .ref aBk, .int (nI bz), .ref aFc])), (aHs, .inl (cHs, 8, .inr (.inr (.inr (.inr fHs))))), (bo, .inr (1, [.int mdc9_87, .ref aEl9_88, .int (nI sz_9_90)])), (aEl9_88, .inl (cEl9_89, 10, .inr (.inr (.inr (.inr fEl9_91)))))] H := hP
        have hD : va_D A [(h0, .inr (13, [.ref sc, .ref kp, .int ik, .ref bl, .ref go, .ref ch, .ref bo])), (sc, .inr (10, [.ref aTp, .int (nI ts), .ref aHl, .int (nI nh), .long ed, .int mi, .int sn, .ref aHs, .int (nI n), .ref aWk, .int (nI wz), .ref aBk, .int (nI bz), .ref aFc])), (aHs, .inl (cHs, 8, .inr (.inr (.inr (.inr fHs))))), (bo, .inr (1, [.int mdc9_87, .ref aEl9_88, .int (nI sz_9_90)])), (aEl9_88, .inl (cEl9_89, 10, .inr (.inr (.inr (.inr fEl9_91)))))] := hD
        have hK : va_K (dC, dI) vwCl [(cHs, .object "MistHeaps$Heap"), (cEl9_89, .object "java/lang/Object")] s := hK
        refine W.widen (k := 1) (n := 10) (by omega) (by omega) ?_
        obtain ⟨h_92, hL_93⟩ := hw_86
        rw [hQ]
        have hP9 := hP.sub (ws' := [(h0, .inr (13, [.ref sc, .ref kp, .int ik, .ref bl, .ref go, .ref ch, .ref bo])), (sc, .inr (10, [.ref aTp, .int (nI ts), .ref aHl, .int (nI nh), .long ed, .int mi, .int sn, .ref aHs, .int (nI n), .ref aWk, .int (nI wz), .ref aBk, .int (nI bz), .ref aFc])), (aHs, .inl (cHs, 8, .inr (.inr (.inr (.inr fHs))))), (bo, .inr (1, [.int mdc9_87, .ref aEl9_88, .int (nI sz_9_90)])), (aEl9_88, .inl (cEl9_89, 10, .inr (.inr (.inr (.inr fEl9_91)))))]) [0, 1, 2, 3, 4] rfl
        have hD9 := hD.sub (ws' := [(h0, .inr (13, [.ref sc, .ref kp, .int ik, .ref bl, .ref go, .ref ch, .ref bo])), (sc, .inr (10, [.ref aTp, .int (nI ts), .ref aHl, .int (nI nh), .long ed, .int mi, .int sn, .ref aHs, .int (nI n), .ref aWk, .int (nI wz), .ref aBk, .int (nI bz), .ref aFc])), (aHs, .inl (cHs, 8, .inr (.inr (.inr (.inr fHs))))), (bo, .inr (1, [.int mdc9_87, .ref aEl9_88, .int (nI sz_9_90)])), (aEl9_88, .inl (cEl9_89, 10, .inr (.inr (.inr (.inr fEl9_91)))))]) [0, 1, 2, 3, 4] (by decide) rfl
        have hK9 := hK.sub (tys' := [(cHs, .object "MistHeaps$Heap"), (cEl9_89, .object "java/lang/Object")]) [0, 1] rfl
        refine W.widen (k := 1) (n := 10) (by omega) (by omega) ?_
        exact W.iret (v := r_85) hx hb hr (fun tQ htQ hWQ => ⟨⟨r_85, ([(bo, .inr (1, [.int mdc9_87, .ref aEl9_88, .int (nI sz_9_90)])), (aEl9_88, .inl (cEl9_89, 10, .inr (.inr (.inr (.inr fEl9_91)))))], [(cEl9_89, .object "java/lang/Object")]), rfl, Or.inr ⟨_, _, _, _, _, rfl, rfl, by omega, hL_93⟩, by rw [htQ]; exact hP9, va_K.moved hWQ.alike hK9, hD9⟩, hS.F htQ⟩) hS.2.2 dX11_act_73
      · skip
        have hY : Fz dC dI [((ya j_6), .inr (6, [.int (yk j_6), .int (nI j_6), .int (yv j_6), .int (yc j_6)]))] [] A s := by have h9 := (hH_ j_6 (by omega)).2; rw [hpE, e_75] at h9; exact h9
        have hPc := hP.sub (ws' := [(bo, .inr (1, [.int mdc9_3, .ref bS, .int 0]))]) [3] rfl
        have hDc := hD.sub (ws' := [(bo, .inr (1, [.int mdc9_3, .ref bS, .int 0]))]) [3] (by decide) rfl
        have hKc := hK.sub (tys' := []) [] rfl
        have hFc := va_free (wc := [(bo, .inr (1, [.int mdc9_3, .ref bS, .int 0]))]) hD hS hA [3] rfl
        refine va_calli (va_runU (As := [.int z, .ref bo]) (rest := []) ⟨hx, hb, hml, hown, hts⟩ (c_X3_doGoes_X4_0 l dC dI ad cB bS    bo j_6 (yk j_6) (yv j_6) (yc j_6) z (ya j_6) mdc9_3 H.size) (va_cwU 2 hts gX11_act_X3_doGoes_u237X4 rfl rfl rfl rfl (by decide +kernel) ⟨Nat.le_of_ble_eq_true rfl, Nat.le_of_ble_eq_true rfl⟩) ⟨fun a U g mk q => by obtain ⟨q0, q1, qP, qK, qD, qhI_, qhB_, qhW_, qhZ⟩ := q; exact ⟨q0, q1, qP, va_K.moved (u := U) (U := U.calling g mk a) (Vm.Alike.refl U.vm) qK, qD, qhI_.same rfl rfl, qhB_.same rfl rfl, qhW_.same rfl rfl, qhZ.same rfl rfl⟩, va_recv hY.2.1 (hY.P hS) (ci := 6) (q0 := 0) rfl rfl, fun U hU hW => ⟨rfl, by rw [hU], by rw [hU]; exact hPc, va_K.moved hW.alike hKc, hDc.weaken (fun _ _ _ _ => trivial), hI_.call hS hU hW (fun q h => hFc q h), hB_.call hS hU hW (fun q h => hFc q h), hW_.call hS hU hW (fun q h => hFc q h), hY.call hS hU hW (fun q h => hFc q h)⟩⟩ rfl rfl hl.1 rfl (lv_room (Nat.le_of_ble_eq_true rfl)) dX11_act_70 ⟨Nat.le_of_ble_eq_true rfl, Nat.le_of_ble_eq_true rfl⟩) hS (fun q _ h => hFc q h) hFc (fun r_94 u tC H1 locs htC hvm hw_95 hB hz1 hk1 hS => ?_)
        obtain ⟨mdc9_96, aEl9_97, cEl9_98, sz_9_99, fEl9_100⟩ := u
        try dsimp only at hw_95 hB
        obtain ⟨hP1, hK1, hD1⟩ := hB
        rw [htC] at hP1
        have hK1 := va_K.moved hvm.symm hK1
        obtain ⟨hP, hD⟩ := va_join (wr := [(h0, .inr (13, [.ref sc, .ref kp, .int ik, .ref bl, .ref go, .ref ch, .ref bo])), (sc, .inr (10, [.ref aTp, .int (nI ts), .ref aHl, .int (nI nh), .long ed, .int mi, .int sn, .ref aHs, .int (nI n), .ref aWk, .int (nI wz), .ref aBk, .int (nI bz), .ref aFc])), (aHs, .inl (cHs, 8, .inr (.inr (.inr (.inr fHs)))))]) (w1 := [(bo, .inr (1, [.int mdc9_96, .ref aEl9_97, .int (nI sz_9_99)])), (aEl9_97, .inl (cEl9_98, 10, .inr (.inr (.inr (.inr fEl9_100)))))]) hP hD [3] [0, 1, 2] rfl rfl (by decide) (by decide) hk1 hFc hP1 hD1
        have hK := (hK.sub (tys' := [(cHs, .object "MistHeaps$Heap")]) [0] rfl).app hK1
        generalize H1 = H at hP hS ⊢
        have hP : va_P (dC, dI) vwCl [(h0, .inr (13, [.ref sc, .ref kp, .int ik, .ref bl, .ref go, .ref ch, .ref bo])), (sc, .inr (10, [.ref aTp, .int (nI ts), .ref aHl, .int (nI nh), .long ed, .int mi, .int sn, .ref aHs, .int (nI n), .ref aWk, .int (nI wz), .ref aBk, .int (nI bz), .ref aFc])), (aHs, .inl (cHs, 8, .inr (.inr (.inr (.inr fHs))))), (bo, .inr (1, [.int mdc9_96, .ref aEl9_97, .int (nI sz_9_99)])), (aEl9_97, .inl (cEl9_98, 10, .inr (.inr (.inr (.inr fEl9_100)))))] H := hP
        have hD : va_D A [(h0, .inr (13, [.ref sc, .ref kp, .int ik, .ref bl, .ref go, .ref ch, .ref bo])), (sc, .inr (10, [.ref aTp, .int (nI ts), .ref aHl, .int (nI nh), .long ed, .int mi, .int sn, .ref aHs, .int (nI n), .ref aWk, .int (nI wz), .ref aBk, .int (nI bz), .ref aFc])), (aHs, .inl (cHs, 8, .inr (.inr (.inr (.inr fHs))))), (bo, .inr (1, [.int mdc9_96, .ref aEl9_97, .int (nI sz_9_99)])), (aEl9_97, .inl (cEl9_98, 10, .inr (.inr (.inr (.inr fEl9_100)))))] := hD
        have hK : va_K (dC, dI) vwCl [(cHs, .object "MistHeaps$Heap"), (cEl9_98, .object "java/lang/Object")] s := hK
        refine W.widen (k := 1) (n := 10) (by omega) (by omega) ?_
        obtain ⟨h_101, hL_102⟩ := hw_95
        rw [hQ]
        have hP9 := hP.sub (ws' := [(h0, .inr (13, [.ref sc, .ref kp, .int ik, .ref bl, .ref go, .ref ch, .ref bo])), (sc, .inr (10, [.ref aTp, .int (nI ts), .ref aHl, .int (nI nh), .long ed, .int mi, .int sn, .ref aHs, .int (nI n), .ref aWk, .int (nI wz), .ref aBk, .int (nI bz), .ref aFc])), (aHs, .inl (cHs, 8, .inr (.inr (.inr (.inr fHs))))), (bo, .inr (1, [.int mdc9_96, .ref aEl9_97, .int (nI sz_9_99)])), (aEl9_97, .inl (cEl9_98, 10, .inr (.inr (.inr (.inr fEl9_100)))))]) [0, 1, 2, 3, 4] rfl
        have hD9 := hD.sub (ws' := [(h0, .inr (13, [.ref sc, .ref kp, .int ik, .ref bl, .ref go, .ref ch, .ref bo])), (sc, .inr (10, [.ref aTp, .int (nI ts), .ref aHl, .int (nI nh), .long ed, .int mi, .int sn, .ref aHs, .int (nI n), .ref aWk, .int (nI wz), .ref aBk, .int (nI bz), .ref aFc])), (aHs, .inl (cHs, 8, .inr (.inr (.inr (.inr fHs))))), (bo, .inr (1, [.int mdc9_96, .ref aEl9_97, .int (nI sz_9_99)])), (aEl9_97, .inl (cEl9_98, 10, .inr (.inr (.inr (.inr fEl9_100)))))]) [0, 1, 2, 3, 4] (by decide) rfl
        have hK9 := hK.sub (tys' := [(cHs, .object "MistHeaps$Heap"), (cEl9_98, .object "java/lang/Object")]) [0, 1] rfl
        refine W.widen (k := 1) (n := 10) (by omega) (by omega) ?_
        exact W.iret (v := r_94) hx hb hr (fun tQ htQ hWQ => ⟨⟨r_94, ([(bo, .inr (1, [.int mdc9_96, .ref aEl9_97, .int (nI sz_9_99)])), (aEl9_97, .inl (cEl9_98, 10, .inr (.inr (.inr (.inr fEl9_100)))))], [(cEl9_98, .object "java/lang/Object")]), rfl, Or.inr ⟨_, _, _, _, _, rfl, rfl, by omega, hL_102⟩, by rw [htQ]; exact hP9, va_K.moved hWQ.alike hK9, hD9⟩, hS.F htQ⟩) hS.2.2 dX11_act_73
      · skip
        have hY : Fz dC dI [((ya j_6), .inr (8, [.int (yk j_6), .int (nI j_6), .int (yv j_6), .int (yc j_6)]))] [] A s := by have h9 := (hH_ j_6 (by omega)).2; rw [hpE, e_75] at h9; exact h9
        have hPc := hP.sub (ws' := [(bo, .inr (1, [.int mdc9_3, .ref bS, .int 0]))]) [3] rfl
        have hDc := hD.sub (ws' := [(bo, .inr (1, [.int mdc9_3, .ref bS, .int 0]))]) [3] (by decide) rfl
        have hKc := hK.sub (tys' := []) [] rfl
        have hFc := va_free (wc := [(bo, .inr (1, [.int mdc9_3, .ref bS, .int 0]))]) hD hS hA [3] rfl
        refine va_calli (va_runU (As := [.int z, .ref bo]) (rest := []) ⟨hx, hb, hml, hown, hts⟩ (c_X6_doGoes_X6_0 l dC dI ad cB bS    bo j_6 (yk j_6) (yv j_6) (yc j_6) z (ya j_6) mdc9_3 H.size) (va_cwO 2 hts gX11_act_X6_doGoes_u237X6 rfl rfl rfl kc_xAct0_4 (by decide +kernel) ⟨Nat.le_of_ble_eq_true rfl, Nat.le_of_ble_eq_true rfl⟩) ⟨fun a U g mk q => by obtain ⟨q0, q1, qP, qK, qD, qhI_, qhB_, qhW_, qhZ⟩ := q; exact ⟨q0, q1, qP, va_K.moved (u := U) (U := U.calling g mk a) (Vm.Alike.refl U.vm) qK, qD, qhI_.same rfl rfl, qhB_.same rfl rfl, qhW_.same rfl rfl, qhZ.same rfl rfl⟩, va_recv hY.2.1 (hY.P hS) (ci := 8) (q0 := 0) rfl rfl, fun U hU hW => ⟨rfl, by rw [hU], by rw [hU]; exact hPc, va_K.moved hW.alike hKc, hDc.weaken (fun _ _ _ _ => trivial), hI_.call hS hU hW (fun q h => hFc q h), hB_.call hS hU hW (fun q h => hFc q h), hW_.call hS hU hW (fun q h => hFc q h), hY.call hS hU hW (fun q h => hFc q h)⟩⟩ rfl rfl hl.1 rfl (lv_room (Nat.le_of_ble_eq_true rfl)) dX11_act_70 ⟨Nat.le_of_ble_eq_true rfl, Nat.le_of_ble_eq_true rfl⟩) hS (fun q _ h => hFc q h) hFc (fun r_103 u tC H1 locs htC hvm hw_104 hB hz1 hk1 hS => ?_)
        obtain ⟨mdc9_105, aEl9_106, cEl9_107, sz_9_108, fEl9_109⟩ := u
        try dsimp only at hw_104 hB
        obtain ⟨hP1, hK1, hD1⟩ := hB
        rw [htC] at hP1
        have hK1 := va_K.moved hvm.symm hK1
        obtain ⟨hP, hD⟩ := va_join (wr := [(h0, .inr (13, [.ref sc, .ref kp, .int ik, .ref bl, .ref go, .ref ch, .ref bo])), (sc, .inr (10, [.ref aTp, .int (nI ts), .ref aHl, .int (nI nh), .long ed, .int mi, .int sn, .ref aHs, .int (nI n), .ref aWk, .int (nI wz), .ref aBk, .int (nI bz), .ref aFc])), (aHs, .inl (cHs, 8, .inr (.inr (.inr (.inr fHs)))))]) (w1 := [(bo, .inr (1, [.int mdc9_105, .ref aEl9_106, .int (nI sz_9_108)])), (aEl9_106, .inl (cEl9_107, 10, .inr (.inr (.inr (.inr fEl9_109)))))]) hP hD [3] [0, 1, 2] rfl rfl (by decide) (by decide) hk1 hFc hP1 hD1
        have hK := (hK.sub (tys' := [(cHs, .object "MistHeaps$Heap")]) [0] rfl).app hK1
        generalize H1 = H at hP hS ⊢
        have hP : va_P (dC, dI) vwCl [(h0, .inr (13, [.ref sc, .ref kp, .int ik, .ref bl, .ref go, .ref ch, .ref bo])), (sc, .inr (10, [.ref aTp, .int (nI ts), .ref aHl, .int (nI nh), .long ed, .int mi, .int sn, .ref aHs, .int (nI n), .ref aWk, .int (nI wz), .ref aBk, .int (nI bz), .ref aFc])), (aHs, .inl (cHs, 8, .inr (.inr (.inr (.inr fHs))))), (bo, .inr (1, [.int mdc9_105, .ref aEl9_106, .int (nI sz_9_108)])), (aEl9_106, .inl (cEl9_107, 10, .inr (.inr (.inr (.inr fEl9_109)))))] H := hP
        have hD : va_D A [(h0, .inr (13, [.ref sc, .ref kp, .int ik, .ref bl, .ref go, .ref ch, .ref bo])), (sc, .inr (10, [.ref aTp, .int (nI ts), .ref aHl, .int (nI nh), .long ed, .int mi, .int sn, .ref aHs, .int (nI n), .ref aWk, .int (nI wz), .ref aBk, .int (nI bz), .ref aFc])), (aHs, .inl (cHs, 8, .inr (.inr (.inr (.inr fHs))))), (bo, .inr (1, [.int mdc9_105, .ref aEl9_106, .int (nI sz_9_108)])), (aEl9_106, .inl (cEl9_107, 10, .inr (.inr (.inr (.inr fEl9_109)))))] := hD
        have hK : va_K (dC, dI) vwCl [(cHs, .object "MistHeaps$Heap"), (cEl9_107, .object "java/lang/Object")] s := hK
        refine W.widen (k := 1) (n := 10) (by omega) (by omega) ?_
        obtain ⟨h_110, hL_111⟩ := hw_104
        rw [hQ]
        have hP9 := hP.sub (ws' := [(h0, .inr (13, [.ref sc, .ref kp, .int ik, .ref bl, .ref go, .ref ch, .ref bo])), (sc, .inr (10, [.ref aTp, .int (nI ts), .ref aHl, .int (nI nh), .long ed, .int mi, .int sn, .ref aHs, .int (nI n), .ref aWk, .int (nI wz), .ref aBk, .int (nI bz), .ref aFc])), (aHs, .inl (cHs, 8, .inr (.inr (.inr (.inr fHs))))), (bo, .inr (1, [.int mdc9_105, .ref aEl9_106, .int (nI sz_9_108)])), (aEl9_106, .inl (cEl9_107, 10, .inr (.inr (.inr (.inr fEl9_109)))))]) [0, 1, 2, 3, 4] rfl
        have hD9 := hD.sub (ws' := [(h0, .inr (13, [.ref sc, .ref kp, .int ik, .ref bl, .ref go, .ref ch, .ref bo])), (sc, .inr (10, [.ref aTp, .int (nI ts), .ref aHl, .int (nI nh), .long ed, .int mi, .int sn, .ref aHs, .int (nI n), .ref aWk, .int (nI wz), .ref aBk, .int (nI bz), .ref aFc])), (aHs, .inl (cHs, 8, .inr (.inr (.inr (.inr fHs))))), (bo, .inr (1, [.int mdc9_105, .ref aEl9_106, .int (nI sz_9_108)])), (aEl9_106, .inl (cEl9_107, 10, .inr (.inr (.inr (.inr fEl9_109)))))]) [0, 1, 2, 3, 4] (by decide) rfl
        have hK9 := hK.sub (tys' := [(cHs, .object "MistHeaps$Heap"), (cEl9_107, .object "java/lang/Object")]) [0, 1] rfl
        refine W.widen (k := 1) (n := 10) (by omega) (by omega) ?_
        exact W.iret (v := r_103) hx hb hr (fun tQ htQ hWQ => ⟨⟨r_103, ([(bo, .inr (1, [.int mdc9_105, .ref aEl9_106, .int (nI sz_9_108)])), (aEl9_106, .inl (cEl9_107, 10, .inr (.inr (.inr (.inr fEl9_109)))))], [(cEl9_107, .object "java/lang/Object")]), rfl, Or.inr ⟨_, _, _, _, _, rfl, rfl, by omega, hL_111⟩, by rw [htQ]; exact hP9, va_K.moved hWQ.alike hK9, hD9⟩, hS.F htQ⟩) hS.2.2 dX11_act_73
      · skip
        have hY : Fz dC dI [((ya j_6), .inr (9, [.int (yk j_6), .int (nI j_6), .int (yv j_6), .int (yc j_6)]))] [] A s := by have h9 := (hH_ j_6 (by omega)).2; rw [hpE, e_75] at h9; exact h9
        have hPc := hP.sub (ws' := [(bo, .inr (1, [.int mdc9_3, .ref bS, .int 0]))]) [3] rfl
        have hDc := hD.sub (ws' := [(bo, .inr (1, [.int mdc9_3, .ref bS, .int 0]))]) [3] (by decide) rfl
        have hKc := hK.sub (tys' := []) [] rfl
        have hFc := va_free (wc := [(bo, .inr (1, [.int mdc9_3, .ref bS, .int 0]))]) hD hS hA [3] rfl
        refine va_calli (va_runU (As := [.int z, .ref bo]) (rest := []) ⟨hx, hb, hml, hown, hts⟩ (c_X7_doGoes_X7_0 l dC dI ad cB bS    bo j_6 (yk j_6) (yv j_6) (yc j_6) z (ya j_6) mdc9_3 H.size) (va_cwO 2 hts gX11_act_X7_doGoes_u237X7 rfl rfl rfl kc_xAct0_4 (by decide +kernel) ⟨Nat.le_of_ble_eq_true rfl, Nat.le_of_ble_eq_true rfl⟩) ⟨fun a U g mk q => by obtain ⟨q0, q1, qP, qK, qD, qhI_, qhB_, qhW_, qhZ⟩ := q; exact ⟨q0, q1, qP, va_K.moved (u := U) (U := U.calling g mk a) (Vm.Alike.refl U.vm) qK, qD, qhI_.same rfl rfl, qhB_.same rfl rfl, qhW_.same rfl rfl, qhZ.same rfl rfl⟩, va_recv hY.2.1 (hY.P hS) (ci := 9) (q0 := 0) rfl rfl, fun U hU hW => ⟨rfl, by rw [hU], by rw [hU]; exact hPc, va_K.moved hW.alike hKc, hDc.weaken (fun _ _ _ _ => trivial), hI_.call hS hU hW (fun q h => hFc q h), hB_.call hS hU hW (fun q h => hFc q h), hW_.call hS hU hW (fun q h => hFc q h), hY.call hS hU hW (fun q h => hFc q h)⟩⟩ rfl rfl hl.1 rfl (lv_room (Nat.le_of_ble_eq_true rfl)) dX11_act_70 ⟨Nat.le_of_ble_eq_true rfl, Nat.le_of_ble_eq_true rfl⟩) hS (fun q _ h => hFc q h) hFc (fun r_112 u tC H1 locs htC hvm hw_113 hB hz1 hk1 hS => ?_)
        obtain ⟨mdc9_114, aEl9_115, cEl9_116, sz_9_117, fEl9_118⟩ := u
        try dsimp only at hw_113 hB
        obtain ⟨hP1, hK1, hD1⟩ := hB
        rw [htC] at hP1
        have hK1 := va_K.moved hvm.symm hK1
        obtain ⟨hP, hD⟩ := va_join (wr := [(h0, .inr (13, [.ref sc, .ref kp, .int ik, .ref bl, .ref go, .ref ch, .ref bo])), (sc, .inr (10, [.ref aTp, .int (nI ts), .ref aHl, .int (nI nh), .long ed, .int mi, .int sn, .ref aHs, .int (nI n), .ref aWk, .int (nI wz), .ref aBk, .int (nI bz), .ref aFc])), (aHs, .inl (cHs, 8, .inr (.inr (.inr (.inr fHs)))))]) (w1 := [(bo, .inr (1, [.int mdc9_114, .ref aEl9_115, .int (nI sz_9_117)])), (aEl9_115, .inl (cEl9_116, 10, .inr (.inr (.inr (.inr fEl9_118)))))]) hP hD [3] [0, 1, 2] rfl rfl (by decide) (by decide) hk1 hFc hP1 hD1
        have hK := (hK.sub (tys' := [(cHs, .object "MistHeaps$Heap")]) [0] rfl).app hK1
        generalize H1 = H at hP hS ⊢
        have hP : va_P (dC, dI) vwCl [(h0, .inr (13, [.ref sc, .ref kp, .int ik, .ref bl, .ref go, .ref ch, .ref bo])), (sc, .inr (10, [.ref aTp, .int (nI ts), .ref aHl, .int (nI nh), .long ed, .int mi, .int sn, .ref aHs, .int (nI n), .ref aWk, .int (nI wz), .ref aBk, .int (nI bz), .ref aFc])), (aHs, .inl (cHs, 8, .inr (.inr (.inr (.inr fHs))))), (bo, .inr (1, [.int mdc9_114, .ref aEl9_115, .int (nI sz_9_117)])), (aEl9_115, .inl (cEl9_116, 10, .inr (.inr (.inr (.inr fEl9_118)))))] H := hP
        have hD : va_D A [(h0, .inr (13, [.ref sc, .ref kp, .int ik, .ref bl, .ref go, .ref ch, .ref bo])), (sc, .inr (10, [.ref aTp, .int (nI ts), .ref aHl, .int (nI nh), .long ed, .int mi, .int sn, .ref aHs, .int (nI n), .ref aWk, .int (nI wz), .ref aBk, .int (nI bz), .ref aFc])), (aHs, .inl (cHs, 8, .inr (.inr (.inr (.inr fHs))))), (bo, .inr (1, [.int mdc9_114, .ref aEl9_115, .int (nI sz_9_117)])), (aEl9_115, .inl (cEl9_116, 10, .inr (.inr (.inr (.inr fEl9_118)))))] := hD
        have hK : va_K (dC, dI) vwCl [(cHs, .object "MistHeaps$Heap"), (cEl9_116, .object "java/lang/Object")] s := hK
        refine W.widen (k := 1) (n := 10) (by omega) (by omega) ?_
        obtain ⟨h_119, hL_120⟩ := hw_113
        rw [hQ]
        have hP9 := hP.sub (ws' := [(h0, .inr (13, [.ref sc, .ref kp, .int ik, .ref bl, .ref go, .ref ch, .ref bo])), (sc, .inr (10, [.ref aTp, .int (nI ts), .ref aHl, .int (nI nh), .long ed, .int mi, .int sn, .ref aHs, .int (nI n), .ref aWk, .int (nI wz), .ref aBk, .int (nI bz), .ref aFc])), (aHs, .inl (cHs, 8, .inr (.inr (.inr (.inr fHs))))), (bo, .inr (1, [.int mdc9_114, .ref aEl9_115, .int (nI sz_9_117)])), (aEl9_115, .inl (cEl9_116, 10, .inr (.inr (.inr (.inr fEl9_118)))))]) [0, 1, 2, 3, 4] rfl
        have hD9 := hD.sub (ws' := [(h0, .inr (13, [.ref sc, .ref kp, .int ik, .ref bl, .ref go, .ref ch, .ref bo])), (sc, .inr (10, [.ref aTp, .int (nI ts), .ref aHl, .int (nI nh), .long ed, .int mi, .int sn, .ref aHs, .int (nI n), .ref aWk, .int (nI wz), .ref aBk, .int (nI bz), .ref aFc])), (aHs, .inl (cHs, 8, .inr (.inr (.inr (.inr fHs))))), (bo, .inr (1, [.int mdc9_114, .ref aEl9_115, .int (nI sz_9_117)])), (aEl9_115, .inl (cEl9_116, 10, .inr (.inr (.inr (.inr fEl9_118)))))]) [0, 1, 2, 3, 4] (by decide) rfl
        have hK9 := hK.sub (tys' := [(cHs, .object "MistHeaps$Heap"), (cEl9_116, .object "java/lang/Object")]) [0, 1] rfl
        refine W.widen (k := 1) (n := 10) (by omega) (by omega) ?_
        exact W.iret (v := r_112) hx hb hr (fun tQ htQ hWQ => ⟨⟨r_112, ([(bo, .inr (1, [.int mdc9_114, .ref aEl9_115, .int (nI sz_9_117)])), (aEl9_115, .inl (cEl9_116, 10, .inr (.inr (.inr (.inr fEl9_118)))))], [(cEl9_116, .object "java/lang/Object")]), rfl, Or.inr ⟨_, _, _, _, _, rfl, rfl, by omega, hL_120⟩, by rw [htQ]; exact hP9, va_K.moved hWQ.alike hK9, hD9⟩, hS.F htQ⟩) hS.2.2 dX11_act_73
      · skip
        have hY : Fz dC dI [((ya j_6), .inr (11, [.int (yk j_6), .int (nI j_6), .int (yv j_6), .int (yc j_6)]))] [] A s := by have h9 := (hH_ j_6 (by omega)).2; rw [hpE, e_75] at h9; exact h9
        have hPc := hP.sub (ws' := [(bo, .inr (1, [.int mdc9_3, .ref bS, .int 0]))]) [3] rfl
        have hDc := hD.sub (ws' := [(bo, .inr (1, [.int mdc9_3, .ref bS, .int 0]))]) [3] (by decide) rfl
        have hKc := hK.sub (tys' := []) [] rfl
        have hFc := va_free (wc := [(bo, .inr (1, [.int mdc9_3, .ref bS, .int 0]))]) hD hS hA [3] rfl
        refine va_calli (va_runU (As := [.int z, .ref bo]) (rest := []) ⟨hx, hb, hml, hown, hts⟩ (c_X6_doGoes_X9_0 l dC dI ad cB bS    bo j_6 (yk j_6) (yv j_6) (yc j_6) z (ya j_6) mdc9_3 H.size) (va_cwO 2 hts gX11_act_X6_doGoes_u237X9 rfl rfl rfl kc_xAct0_4 (by decide +kernel) ⟨Nat.le_of_ble_eq_true rfl, Nat.le_of_ble_eq_true rfl⟩) ⟨fun a U g mk q => by obtain ⟨q0, q1, qP, qK, qD, qhI_, qhB_, qhW_, qhZ⟩ := q; exact ⟨q0, q1, qP, va_K.moved (u := U) (U := U.calling g mk a) (Vm.Alike.refl U.vm) qK, qD, qhI_.same rfl rfl, qhB_.same rfl rfl, qhW_.same rfl rfl, qhZ.same rfl rfl⟩, va_recv hY.2.1 (hY.P hS) (ci := 11) (q0 := 0) rfl rfl, fun U hU hW => ⟨rfl, by rw [hU], by rw [hU]; exact hPc, va_K.moved hW.alike hKc, hDc.weaken (fun _ _ _ _ => trivial), hI_.call hS hU hW (fun q h => hFc q h), hB_.call hS hU hW (fun q h => hFc q h), hW_.call hS hU hW (fun q h => hFc q h), hY.call hS hU hW (fun q h => hFc q h)⟩⟩ rfl rfl hl.1 rfl (lv_room (Nat.le_of_ble_eq_true rfl)) dX11_act_70 ⟨Nat.le_of_ble_eq_true rfl, Nat.le_of_ble_eq_true rfl⟩) hS (fun q _ h => hFc q h) hFc (fun r_121 u tC H1 locs htC hvm hw_122 hB hz1 hk1 hS => ?_)
        obtain ⟨mdc9_123, aEl9_124, cEl9_125, sz_9_126, fEl9_127⟩ := u
        try dsimp only at hw_122 hB
        obtain ⟨hP1, hK1, hD1⟩ := hB
        rw [htC] at hP1
        have hK1 := va_K.moved hvm.symm hK1
        obtain ⟨hP, hD⟩ := va_join (wr := [(h0, .inr (13, [.ref sc, .ref kp, .int ik, .ref bl, .ref go, .ref ch, .ref bo])), (sc, .inr (10, [.ref aTp, .int (nI ts), .ref aHl, .int (nI nh), .long ed, .int mi, .int sn, .ref aHs, .int (nI n), .ref aWk, .int (nI wz), .ref aBk, .int (nI bz), .ref aFc])), (aHs, .inl (cHs, 8, .inr (.inr (.inr (.inr fHs)))))]) (w1 := [(bo, .inr (1, [.int mdc9_123, .ref aEl9_124, .int (nI sz_9_126)])), (aEl9_124, .inl (cEl9_125, 10, .inr (.inr (.inr (.inr fEl9_127)))))]) hP hD [3] [0, 1, 2] rfl rfl (by decide) (by decide) hk1 hFc hP1 hD1
        have hK := (hK.sub (tys' := [(cHs, .object "MistHeaps$Heap")]) [0] rfl).app hK1
        generalize H1 = H at hP hS ⊢
        have hP : va_P (dC, dI) vwCl [(h0, .inr (13, [.ref sc, .ref kp, .int ik, .ref bl, .ref go, .ref ch, .ref bo])), (sc, .inr (10, [.ref aTp, .int (nI ts), .ref aHl, .int (nI nh), .long ed, .int mi, .int sn, .ref aHs, .int (nI n), .ref aWk, .int (nI wz), .ref aBk, .int (nI bz), .ref aFc])), (aHs, .inl (cHs, 8, .inr (.inr (.inr (.inr fHs))))), (bo, .inr (1, [.int mdc9_123, .ref aEl9_124, .int (nI sz_9_126)])), (aEl9_124, .inl (cEl9_125, 10, .inr (.inr (.inr (.inr fEl9_127)))))] H := hP
        have hD : va_D A [(h0, .inr (13, [.ref sc, .ref kp, .int ik, .ref bl, .ref go, .ref ch, .ref bo])), (sc, .inr (10, [.ref aTp, .int (nI ts), .ref aHl, .int (nI nh), .long ed, .int mi, .int sn, .ref aHs, .int (nI n), .ref aWk, .int (nI wz), .ref aBk, .int (nI bz), .ref aFc])), (aHs, .inl (cHs, 8, .inr (.inr (.inr (.inr fHs))))), (bo, .inr (1, [.int mdc9_123, .ref aEl9_124, .int (nI sz_9_126)])), (aEl9_124, .inl (cEl9_125, 10, .inr (.inr (.inr (.inr fEl9_127)))))] := hD
        have hK : va_K (dC, dI) vwCl [(cHs, .object "MistHeaps$Heap"), (cEl9_125, .object "java/lang/Object")] s := hK
        refine W.widen (k := 1) (n := 10) (by omega) (by omega) ?_
        obtain ⟨h_128, hL_129⟩ := hw_122
        rw [hQ]
        have hP9 := hP.sub (ws' := [(h0, .inr (13, [.ref sc, .ref kp, .int ik, .ref bl, .ref go, .ref ch, .ref bo])), (sc, .inr (10, [.ref aTp, .int (nI ts), .ref aHl, .int (nI nh), .long ed, .int mi, .int sn, .ref aHs, .int (nI n), .ref aWk, .int (nI wz), .ref aBk, .int (nI bz), .ref aFc])), (aHs, .inl (cHs, 8, .inr (.inr (.inr (.inr fHs))))), (bo, .inr (1, [.int mdc9_123, .ref aEl9_124, .int (nI sz_9_126)])), (aEl9_124, .inl (cEl9_125, 10, .inr (.inr (.inr (.inr fEl9_127)))))]) [0, 1, 2, 3, 4] rfl
        have hD9 := hD.sub (ws' := [(h0, .inr (13, [.ref sc, .ref kp, .int ik, .ref bl, .ref go, .ref ch, .ref bo])), (sc, .inr (10, [.ref aTp, .int (nI ts), .ref aHl, .int (nI nh), .long ed, .int mi, .int sn, .ref aHs, .int (nI n), .ref aWk, .int (nI wz), .ref aBk, .int (nI bz), .ref aFc])), (aHs, .inl (cHs, 8, .inr (.inr (.inr (.inr fHs))))), (bo, .inr (1, [.int mdc9_123, .ref aEl9_124, .int (nI sz_9_126)])), (aEl9_124, .inl (cEl9_125, 10, .inr (.inr (.inr (.inr fEl9_127)))))]) [0, 1, 2, 3, 4] (by decide) rfl
        have hK9 := hK.sub (tys' := [(cHs, .object "MistHeaps$Heap"), (cEl9_125, .object "java/lang/Object")]) [0, 1] rfl
        refine W.widen (k := 1) (n := 10) (by omega) (by omega) ?_
        exact W.iret (v := r_121) hx hb hr (fun tQ htQ hWQ => ⟨⟨r_121, ([(bo, .inr (1, [.int mdc9_123, .ref aEl9_124, .int (nI sz_9_126)])), (aEl9_124, .inl (cEl9_125, 10, .inr (.inr (.inr (.inr fEl9_127)))))], [(cEl9_125, .object "java/lang/Object")]), rfl, Or.inr ⟨_, _, _, _, _, rfl, rfl, by omega, hL_129⟩, by rw [htQ]; exact hP9, va_K.moved hWQ.alike hK9, hD9⟩, hS.F htQ⟩) hS.2.2 dX11_act_73
      · skip
        have hY : Fz dC dI [((ya j_6), .inr (12, [.int (yk j_6), .int (nI j_6), .int (yv j_6), .int (yc j_6)]))] [] A s := by have h9 := (hH_ j_6 (by omega)).2; rw [hpE, e_75] at h9; exact h9
        have hPc := hP.sub (ws' := [(bo, .inr (1, [.int mdc9_3, .ref bS, .int 0]))]) [3] rfl
        have hDc := hD.sub (ws' := [(bo, .inr (1, [.int mdc9_3, .ref bS, .int 0]))]) [3] (by decide) rfl
        have hKc := hK.sub (tys' := []) [] rfl
        have hFc := va_free (wc := [(bo, .inr (1, [.int mdc9_3, .ref bS, .int 0]))]) hD hS hA [3] rfl
        refine va_calli (va_runU (As := [.int z, .ref bo]) (rest := []) ⟨hx, hb, hml, hown, hts⟩ (c_X3_doGoes_X10_0 l dC dI ad cB bS    bo j_6 (yk j_6) (yv j_6) (yc j_6) z (ya j_6) mdc9_3 H.size) (va_cwU 2 hts gX11_act_X3_doGoes_u237X10 rfl rfl rfl rfl (by decide +kernel) ⟨Nat.le_of_ble_eq_true rfl, Nat.le_of_ble_eq_true rfl⟩) ⟨fun a U g mk q => by obtain ⟨q0, q1, qP, qK, qD, qhI_, qhB_, qhW_, qhZ⟩ := q; exact ⟨q0, q1, qP, va_K.moved (u := U) (U := U.calling g mk a) (Vm.Alike.refl U.vm) qK, qD, qhI_.same rfl rfl, qhB_.same rfl rfl, qhW_.same rfl rfl, qhZ.same rfl rfl⟩, va_recv hY.2.1 (hY.P hS) (ci := 12) (q0 := 0) rfl rfl, fun U hU hW => ⟨rfl, by rw [hU], by rw [hU]; exact hPc, va_K.moved hW.alike hKc, hDc.weaken (fun _ _ _ _ => trivial), hI_.call hS hU hW (fun q h => hFc q h), hB_.call hS hU hW (fun q h => hFc q h), hW_.call hS hU hW (fun q h => hFc q h), hY.call hS hU hW (fun q h => hFc q h)⟩⟩ rfl rfl hl.1 rfl (lv_room (Nat.le_of_ble_eq_true rfl)) dX11_act_70 ⟨Nat.le_of_ble_eq_true rfl, Nat.le_of_ble_eq_true rfl⟩) hS (fun q _ h => hFc q h) hFc (fun r_130 u tC H1 locs htC hvm hw_131 hB hz1 hk1 hS => ?_)
        obtain ⟨mdc9_132, aEl9_133, cEl9_134, sz_9_135, fEl9_136⟩ := u
        try dsimp only at hw_131 hB
        obtain ⟨hP1, hK1, hD1⟩ := hB
        rw [htC] at hP1
        have hK1 := va_K.moved hvm.symm hK1
        obtain ⟨hP, hD⟩ := va_join (wr := [(h0, .inr (13, [.ref sc, .ref kp, .int ik, .ref bl, .ref go, .ref ch, .ref bo])), (sc, .inr (10, [.ref aTp, .int (nI ts), .ref aHl, .int (nI nh), .long ed, .int mi, .int sn, .ref aHs, .int (nI n), .ref aWk, .int (nI wz), .ref aBk, .int (nI bz), .ref aFc])), (aHs, .inl (cHs, 8, .inr (.inr (.inr (.inr fHs)))))]) (w1 := [(bo, .inr (1, [.int mdc9_132, .ref aEl9_133, .int (nI sz_9_135)])), (aEl9_133, .inl (cEl9_134, 10, .inr (.inr (.inr (.inr fEl9_136)))))]) hP hD [3] [0, 1, 2] rfl rfl (by decide) (by decide) hk1 hFc hP1 hD1
        have hK := (hK.sub (tys' := [(cHs, .object "MistHeaps$Heap")]) [0] rfl).app hK1
        generalize H1 = H at hP hS ⊢
        have hP : va_P (dC, dI) vwCl [(h0, .inr (13, [.ref sc, .ref kp, .int ik, .ref bl, .ref go, .ref ch, .ref bo])), (sc, .inr (10, [.ref aTp, .int (nI ts), .ref aHl, .int (nI nh), .long ed, .int mi, .int sn, .ref aHs, .int (nI n), .ref aWk, .int (nI wz), .ref aBk, .int (nI bz), .ref aFc])), (aHs, .inl (cHs, 8, .inr (.inr (.inr (.inr fHs))))), (bo, .inr (1, [.int mdc9_132, .ref aEl9_133, .int (nI sz_9_135)])), (aEl9_133, .inl (cEl9_134, 10, .inr (.inr (.inr (.inr fEl9_136)))))] H := hP
        have hD : va_D A [(h0, .inr (13, [.ref sc, .ref kp, .int ik, .ref bl, .ref go, .ref ch, .ref bo])), (sc, .inr (10, [.ref aTp, .int (nI ts), .ref aHl, .int (nI nh), .long ed, .int mi, .int sn, .ref aHs, .int (nI n), .ref aWk, .int (nI wz), .ref aBk, .int (nI bz), .ref aFc])), (aHs, .inl (cHs, 8, .inr (.inr (.inr (.inr fHs))))), (bo, .inr (1, [.int mdc9_132, .ref aEl9_133, .int (nI sz_9_135)])), (aEl9_133, .inl (cEl9_134, 10, .inr (.inr (.inr (.inr fEl9_136)))))] := hD
        have hK : va_K (dC, dI) vwCl [(cHs, .object "MistHeaps$Heap"), (cEl9_134, .object "java/lang/Object")] s := hK
        refine W.widen (k := 1) (n := 10) (by omega) (by omega) ?_
        obtain ⟨h_137, hL_138⟩ := hw_131
        rw [hQ]
        have hP9 := hP.sub (ws' := [(h0, .inr (13, [.ref sc, .ref kp, .int ik, .ref bl, .ref go, .ref ch, .ref bo])), (sc, .inr (10, [.ref aTp, .int (nI ts), .ref aHl, .int (nI nh), .long ed, .int mi, .int sn, .ref aHs, .int (nI n), .ref aWk, .int (nI wz), .ref aBk, .int (nI bz), .ref aFc])), (aHs, .inl (cHs, 8, .inr (.inr (.inr (.inr fHs))))), (bo, .inr (1, [.int mdc9_132, .ref aEl9_133, .int (nI sz_9_135)])), (aEl9_133, .inl (cEl9_134, 10, .inr (.inr (.inr (.inr fEl9_136)))))]) [0, 1, 2, 3, 4] rfl
        have hD9 := hD.sub (ws' := [(h0, .inr (13, [.ref sc, .ref kp, .int ik, .ref bl, .ref go, .ref ch, .ref bo])), (sc, .inr (10, [.ref aTp, .int (nI ts), .ref aHl, .int (nI nh), .long ed, .int mi, .int sn, .ref aHs, .int (nI n), .ref aWk, .int (nI wz), .ref aBk, .int (nI bz), .ref aFc])), (aHs, .inl (cHs, 8, .inr (.inr (.inr (.inr fHs))))), (bo, .inr (1, [.int mdc9_132, .ref aEl9_133, .int (nI sz_9_135)])), (aEl9_133, .inl (cEl9_134, 10, .inr (.inr (.inr (.inr fEl9_136)))))]) [0, 1, 2, 3, 4] (by decide) rfl
        have hK9 := hK.sub (tys' := [(cHs, .object "MistHeaps$Heap"), (cEl9_134, .object "java/lang/Object")]) [0, 1] rfl
        refine W.widen (k := 1) (n := 10) (by omega) (by omega) ?_
        exact W.iret (v := r_130) hx hb hr (fun tQ htQ hWQ => ⟨⟨r_130, ([(bo, .inr (1, [.int mdc9_132, .ref aEl9_133, .int (nI sz_9_135)])), (aEl9_133, .inl (cEl9_134, 10, .inr (.inr (.inr (.inr fEl9_136)))))], [(cEl9_134, .object "java/lang/Object")]), rfl, Or.inr ⟨_, _, _, _, _, rfl, rfl, by omega, hL_138⟩, by rw [htQ]; exact hP9, va_K.moved hWQ.alike hK9, hD9⟩, hS.F htQ⟩) hS.2.2 dX11_act_73
    by_cases c_10_2 : y = 2
    · skip
      refine lv_tableIn (tgt := 74) hx hb dX11_act_25 (by rw [c_10_2]; decide) (by rw [c_10_2]; decide) (by rw [c_10_2]; rfl) (by decide) ?_
      refine lv_aload hx hb dX11_act_74 (lv_at hl 0 rfl) ?_
      refine lv_iload_n hx hb dX11_act_76 rfl (lv_at hl 4 rfl) ?_
      refine lv_aload_n hx hb dX11_act_77 rfl (lv_at hl 1 rfl) ?_
      refine va_get (D := (dC, dI)) (ci := 13) (v := .ref bo) (C := RX11) (T := TX11) (N := 7) hx hb hts kc_xAct0_0 hown hK hP 0 rfl rfl 6 (by decide) (hts (.fieldLink RX11 49 "MistHeaps" "bodies" "Ljava/util/ArrayList;") kc_xAct0_1) (fun _ h9 => h9) rfl dX11_act_78 ?_
      rcases (show yi j_6 = 3 ∨ yi j_6 = 5 ∨ yi j_6 = 6 ∨ yi j_6 = 8 ∨ yi j_6 = 9 ∨ yi j_6 = 11 ∨ yi j_6 = 12 from (hH_ j_6 (by omega)).1) with e_139 | e_139 | e_139 | e_139 | e_139 | e_139 | e_139
      · skip
        have hY : Fz dC dI [((ya j_6), .inr (3, [.int (yk j_6), .int (nI j_6), .int (yv j_6), .int (yc j_6)]))] [] A s := by have h9 := (hH_ j_6 (by omega)).2; rw [hpE, e_139] at h9; exact h9
        have hPc := hP.sub (ws' := [(bo, .inr (1, [.int mdc9_3, .ref bS, .int 0]))]) [3] rfl
        have hDc := hD.sub (ws' := [(bo, .inr (1, [.int mdc9_3, .ref bS, .int 0]))]) [3] (by decide) rfl
        have hKc := hK.sub (tys' := []) [] rfl
        have hFc := va_free (wc := [(bo, .inr (1, [.int mdc9_3, .ref bS, .int 0]))]) hD hS hA [3] rfl
        refine va_calli (va_runU (As := [.int z, .ref bo]) (rest := []) ⟨hx, hb, hml, hown, hts⟩ (c_X1_doLooks_X1_0 l dC dI ad cB bS    bo j_6 (yk j_6) (yv j_6) (yc j_6) z (ya j_6) mdc9_3 H.size) (va_cwO 2 hts gX11_act_X1_doLooks_u240X1 rfl rfl rfl kc_xAct0_5 (by decide +kernel) ⟨Nat.le_of_ble_eq_true rfl, Nat.le_of_ble_eq_true rfl⟩) ⟨fun a U g mk q => by obtain ⟨q0, q1, qP, qK, qD, qhI_, qhB_, qhW_, qhZ⟩ := q; exact ⟨q0, q1, qP, va_K.moved (u := U) (U := U.calling g mk a) (Vm.Alike.refl U.vm) qK, qD, qhI_.same rfl rfl, qhB_.same rfl rfl, qhW_.same rfl rfl, qhZ.same rfl rfl⟩, va_recv hY.2.1 (hY.P hS) (ci := 3) (q0 := 0) rfl rfl, fun U hU hW => ⟨rfl, by rw [hU], by rw [hU]; exact hPc, va_K.moved hW.alike hKc, hDc.weaken (fun _ _ _ _ => trivial), hI_.call hS hU hW (fun q h => hFc q h), hB_.call hS hU hW (fun q h => hFc q h), hW_.call hS hU hW (fun q h => hFc q h), hY.call hS hU hW (fun q h => hFc q h)⟩⟩ rfl rfl hl.1 rfl (lv_room (Nat.le_of_ble_eq_true rfl)) dX11_act_81 ⟨Nat.le_of_ble_eq_true rfl, Nat.le_of_ble_eq_true rfl⟩) hS (fun q _ h => hFc q h) hFc (fun r_140 u tC H1 locs htC hvm hw_141 hB hz1 hk1 hS => ?_)
        obtain ⟨mdc9_142, aEl9_143, cEl9_144, sz_9_145, fEl9_146⟩ := u
        try dsimp only at hw_141 hB
        obtain ⟨hP1, hK1, hD1⟩ := hB
        rw [htC] at hP1
        have hK1 := va_K.moved hvm.symm hK1
        obtain ⟨hP, hD⟩ := va_join (wr := [(h0, .inr (13, [.ref sc, .ref kp, .int ik, .ref bl, .ref go, .ref ch, .ref bo])), (sc, .inr (10, [.ref aTp, .int (nI ts), .ref aHl, .int (nI nh), .long ed, .int mi, .int sn, .ref aHs, .int (nI n), .ref aWk, .int (nI wz), .ref aBk, .int (nI bz), .ref aFc])), (aHs, .inl (cHs, 8, .inr (.inr (.inr (.inr fHs)))))]) (w1 := [(bo, .inr (1, [.int mdc9_142, .ref aEl9_143, .int (nI sz_9_145)])), (aEl9_143, .inl (cEl9_144, 10, .inr (.inr (.inr (.inr fEl9_146)))))]) hP hD [3] [0, 1, 2] rfl rfl (by decide) (by decide) hk1 hFc hP1 hD1
        have hK := (hK.sub (tys' := [(cHs, .object "MistHeaps$Heap")]) [0] rfl).app hK1
        generalize H1 = H at hP hS ⊢
        have hP : va_P (dC, dI) vwCl [(h0, .inr (13, [.ref sc, .ref kp, .int ik, .ref bl, .ref go, .ref ch, .ref bo])), (sc, .inr (10, [.ref aTp, .int (nI ts), .ref aHl, .int (nI nh), .long ed, .int mi, .int sn, .ref aHs, .int (nI n), .ref aWk, .int (nI wz), .ref aBk, .int (nI bz), .ref aFc])), (aHs, .inl (cHs, 8, .inr (.inr (.inr (.inr fHs))))), (bo, .inr (1, [.int mdc9_142, .ref aEl9_143, .int (nI sz_9_145)])), (aEl9_143, .inl (cEl9_144, 10, .inr (.inr (.inr (.inr fEl9_146)))))] H := hP
        have hD : va_D A [(h0, .inr (13, [.ref sc, .ref kp, .int ik, .ref bl, .ref go, .ref ch, .ref bo])), (sc, .inr (10, [.ref aTp, .int (nI ts), .ref aHl, .int (nI nh), .long ed, .int mi, .int sn, .ref aHs, .int (nI n), .ref aWk, .int (nI wz), .ref aBk, .int (nI bz), .ref aFc])), (aHs, .inl (cHs, 8, .inr (.inr (.inr (.inr fHs))))), (bo, .inr (1, [.int mdc9_142, .ref aEl9_143, .int (nI sz_9_145)])), (aEl9_143, .inl (cEl9_144, 10, .inr (.inr (.inr (.inr fEl9_146)))))] := hD
        have hK : va_K (dC, dI) vwCl [(cHs, .object "MistHeaps$Heap"), (cEl9_144, .object "java/lang/Object")] s := hK
        refine W.widen (k := 1) (n := 10) (by omega) (by omega) ?_
        obtain ⟨h_147, hL_148⟩ := hw_141
        rw [hQ]
        have hP9 := hP.sub (ws' := [(h0, .inr (13, [.ref sc, .ref kp, .int ik, .ref bl, .ref go, .ref ch, .ref bo])), (sc, .inr (10, [.ref aTp, .int (nI ts), .ref aHl, .int (nI nh), .long ed, .int mi, .int sn, .ref aHs, .int (nI n), .ref aWk, .int (nI wz), .ref aBk, .int (nI bz), .ref aFc])), (aHs, .inl (cHs, 8, .inr (.inr (.inr (.inr fHs))))), (bo, .inr (1, [.int mdc9_142, .ref aEl9_143, .int (nI sz_9_145)])), (aEl9_143, .inl (cEl9_144, 10, .inr (.inr (.inr (.inr fEl9_146)))))]) [0, 1, 2, 3, 4] rfl
        have hD9 := hD.sub (ws' := [(h0, .inr (13, [.ref sc, .ref kp, .int ik, .ref bl, .ref go, .ref ch, .ref bo])), (sc, .inr (10, [.ref aTp, .int (nI ts), .ref aHl, .int (nI nh), .long ed, .int mi, .int sn, .ref aHs, .int (nI n), .ref aWk, .int (nI wz), .ref aBk, .int (nI bz), .ref aFc])), (aHs, .inl (cHs, 8, .inr (.inr (.inr (.inr fHs))))), (bo, .inr (1, [.int mdc9_142, .ref aEl9_143, .int (nI sz_9_145)])), (aEl9_143, .inl (cEl9_144, 10, .inr (.inr (.inr (.inr fEl9_146)))))]) [0, 1, 2, 3, 4] (by decide) rfl
        have hK9 := hK.sub (tys' := [(cHs, .object "MistHeaps$Heap"), (cEl9_144, .object "java/lang/Object")]) [0, 1] rfl
        refine W.widen (k := 1) (n := 10) (by omega) (by omega) ?_
        exact W.iret (v := r_140) hx hb hr (fun tQ htQ hWQ => ⟨⟨r_140, ([(bo, .inr (1, [.int mdc9_142, .ref aEl9_143, .int (nI sz_9_145)])), (aEl9_143, .inl (cEl9_144, 10, .inr (.inr (.inr (.inr fEl9_146)))))], [(cEl9_144, .object "java/lang/Object")]), rfl, Or.inr ⟨_, _, _, _, _, rfl, rfl, by omega, hL_148⟩, by rw [htQ]; exact hP9, va_K.moved hWQ.alike hK9, hD9⟩, hS.F htQ⟩) hS.2.2 dX11_act_84
      · skip
        have hY : Fz dC dI [((ya j_6), .inr (5, [.int (yk j_6), .int (nI j_6), .int (yv j_6), .int (yc j_6)]))] [] A s := by have h9 := (hH_ j_6 (by omega)).2; rw [hpE, e_139] at h9; exact h9
        have hPc := hP.sub (ws' := [(bo, .inr (1, [.int mdc9_3, .ref bS, .int 0]))]) [3] rfl
        have hDc := hD.sub (ws' := [(bo, .inr (1, [.int mdc9_3, .ref bS, .int 0]))]) [3] (by decide) rfl
        have hKc := hK.sub (tys' := []) [] rfl
        have hFc := va_free (wc := [(bo, .inr (1, [.int mdc9_3, .ref bS, .int 0]))]) hD hS hA [3] rfl
        refine va_calli (va_runV (As := [.int z, .ref bo]) (rest := []) ⟨hx, hb, hml, hown, hts⟩ (c_X3_doLooks_X3_0 l dC dI ad cB bS    bo j_6 (yk j_6) (yv j_6) (yc j_6) z (ya j_6) mdc9_3 H.size) (cwV 2 hts gX11_act_X3_doLooks rfl rfl rfl (by decide +kernel) ⟨Nat.le_of_ble_eq_true rfl, Nat.le_of_ble_eq_true rfl⟩) ⟨fun a U g mk q => by obtain ⟨q0, q1, qP, qK, qD, qhI_, qhB_, qhW_, qhZ⟩ := q; exact ⟨q0, q1, qP, va_K.moved (u := U) (U := U.calling g mk a) (Vm.Alike.refl U.vm) qK, qD, qhI_.same rfl rfl, qhB_.same rfl rfl, qhW_.same rfl rfl, qhZ.same rfl rfl⟩, va_recv hY.2.1 (hY.P hS) (ci := 5) (q0 := 0) rfl rfl, fun U hU hW => ⟨rfl, by rw [hU], by rw [hU]; exact hPc, va_K.moved hW.alike hKc, hDc.weaken (fun _ _ _ _ => trivial), hI_.call hS hU hW (fun q h => hFc q h), hB_.call hS hU hW (fun q h => hFc q h), hW_.call hS hU hW (fun q h => hFc q h), hY.call hS hU hW (fun q h => hFc q h)⟩⟩ rfl rfl hl.1 rfl (lv_room (Nat.le_of_ble_eq_true rfl)) dX11_act_81 ⟨Nat.le_of_ble_eq_true rfl, Nat.le_of_ble_eq_true rfl⟩) hS (fun q _ h => hFc q h) hFc (fun r_149 u tC H1 locs htC hvm hw_150 hB hz1 hk1 hS => ?_)
        obtain ⟨mdc9_151, aEl9_152, cEl9_153, sz_9_154, fEl9_155⟩ := u
        try dsimp only at hw_150 hB
        obtain ⟨hP1, hK1, hD1⟩ := hB
        rw [htC] at hP1
        have hK1 := va_K.moved hvm.symm hK1
        obtain ⟨hP, hD⟩ := va_join (wr := [(h0, .inr (13, [.ref sc, .ref kp, .int ik, .ref bl, .ref go, .ref ch, .ref bo])), (sc, .inr (10, [.ref aTp, .int (nI ts), .ref aHl, .int (nI nh), .long ed, .int mi, .int sn, .ref aHs, .int (nI n), .ref aWk, .int (nI wz), .ref aBk, .int (nI bz), .ref aFc])), (aHs, .inl (cHs, 8, .inr (.inr (.inr (.inr fHs)))))]) (w1 := [(bo, .inr (1, [.int mdc9_151, .ref aEl9_152, .int (nI sz_9_154)])), (aEl9_152, .inl (cEl9_153, 10, .inr (.inr (.inr (.inr fEl9_155)))))]) hP hD [3] [0, 1, 2] rfl rfl (by decide) (by decide) hk1 hFc hP1 hD1
        have hK := (hK.sub (tys' := [(cHs, .object "MistHeaps$Heap")]) [0] rfl).app hK1
        generalize H1 = H at hP hS ⊢
        have hP : va_P (dC, dI) vwCl [(h0, .inr (13, [.ref sc, .ref kp, .int ik, .ref bl, .ref go, .ref ch, .ref bo])), (sc, .inr (10, [.ref aTp, .int (nI ts), .ref aHl, .int (nI nh), .long ed, .int mi, .int sn, .ref aHs, .int (nI n), .ref aWk, .int (nI wz), .ref aBk, .int (nI bz), .ref aFc])), (aHs, .inl (cHs, 8, .inr (.inr (.inr (.inr fHs))))), (bo, .inr (1, [.int mdc9_151, .ref aEl9_152, .int (nI sz_9_154)])), (aEl9_152, .inl (cEl9_153, 10, .inr (.inr (.inr (.inr fEl9_155)))))] H := hP
        have hD : va_D A [(h0, .inr (13, [.ref sc, .ref kp, .int ik, .ref bl, .ref go, .ref ch, .ref bo])), (sc, .inr (10, [.ref aTp, .int (nI ts), .ref aHl, .int (nI nh), .long ed, .int mi, .int sn, .ref aHs, .int (nI n), .ref aWk, .int (nI wz), .ref aBk, .int (nI bz), .ref aFc])), (aHs, .inl (cHs, 8, .inr (.inr (.inr (.inr fHs))))), (bo, .inr (1, [.int mdc9_151, .ref aEl9_152, .int (nI sz_9_154)])), (aEl9_152, .inl (cEl9_153, 10, .inr (.inr (.inr (.inr fEl9_155)))))] := hD
        have hK : va_K (dC, dI) vwCl [(cHs, .object "MistHeaps$Heap"), (cEl9_153, .object "java/lang/Object")] s := hK
        refine W.widen (k := 1) (n := 10) (by omega) (by omega) ?_
        obtain ⟨h_156, hL_157⟩ := hw_150
        rw [hQ]
        have hP9 := hP.sub (ws' := [(h0, .inr (13, [.ref sc, .ref kp, .int ik, .ref bl, .ref go, .ref ch, .ref bo])), (sc, .inr (10, [.ref aTp, .int (nI ts), .ref aHl, .int (nI nh), .long ed, .int mi, .int sn, .ref aHs, .int (nI n), .ref aWk, .int (nI wz), .ref aBk, .int (nI bz), .ref aFc])), (aHs, .inl (cHs, 8, .inr (.inr (.inr (.inr fHs))))), (bo, .inr (1, [.int mdc9_151, .ref aEl9_152, .int (nI sz_9_154)])), (aEl9_152, .inl (cEl9_153, 10, .inr (.inr (.inr (.inr fEl9_155)))))]) [0, 1, 2, 3, 4] rfl
        have hD9 := hD.sub (ws' := [(h0, .inr (13, [.ref sc, .ref kp, .int ik, .ref bl, .ref go, .ref ch, .ref bo])), (sc, .inr (10, [.ref aTp, .int (nI ts), .ref aHl, .int (nI nh), .long ed, .int mi, .int sn, .ref aHs, .int (nI n), .ref aWk, .int (nI wz), .ref aBk, .int (nI bz), .ref aFc])), (aHs, .inl (cHs, 8, .inr (.inr (.inr (.inr fHs))))), (bo, .inr (1, [.int mdc9_151, .ref aEl9_152, .int (nI sz_9_154)])), (aEl9_152, .inl (cEl9_153, 10, .inr (.inr (.inr (.inr fEl9_155)))))]) [0, 1, 2, 3, 4] (by decide) rfl
        have hK9 := hK.sub (tys' := [(cHs, .object "MistHeaps$Heap"), (cEl9_153, .object "java/lang/Object")]) [0, 1] rfl
        refine W.widen (k := 1) (n := 10) (by omega) (by omega) ?_
        exact W.iret (v := r_149) hx hb hr (fun tQ htQ hWQ => ⟨⟨r_149, ([(bo, .inr (1, [.int mdc9_151, .ref aEl9_152, .int (nI sz_9_154)])), (aEl9_152, .inl (cEl9_153, 10, .inr (.inr (.inr (.inr fEl9_155)))))], [(cEl9_153, .object "java/lang/Object")]), rfl, Or.inr ⟨_, _, _, _, _, rfl, rfl, by omega, hL_157⟩, by rw [htQ]; exact hP9, va_K.moved hWQ.alike hK9, hD9⟩, hS.F htQ⟩) hS.2.2 dX11_act_84
      · skip
        have hY : Fz dC dI [((ya j_6), .inr (6, [.int (yk j_6), .int (nI j_6), .int (yv j_6), .int (yc j_6)]))] [] A s := by have h9 := (hH_ j_6 (by omega)).2; rw [hpE, e_139] at h9; exact h9
        have hPc := hP.sub (ws' := [(bo, .inr (1, [.int mdc9_3, .ref bS, .int 0]))]) [3] rfl
        have hDc := hD.sub (ws' := [(bo, .inr (1, [.int mdc9_3, .ref bS, .int 0]))]) [3] (by decide) rfl
        have hKc := hK.sub (tys' := []) [] rfl
        have hFc := va_free (wc := [(bo, .inr (1, [.int mdc9_3, .ref bS, .int 0]))]) hD hS hA [3] rfl
        refine va_calli (va_runU (As := [.int z, .ref bo]) (rest := []) ⟨hx, hb, hml, hown, hts⟩ (c_X3_doLooks_X4_0 l dC dI ad cB bS    bo j_6 (yk j_6) (yv j_6) (yc j_6) z (ya j_6) mdc9_3 H.size) (va_cwU 2 hts gX11_act_X3_doLooks_u240X4 rfl rfl rfl rfl (by decide +kernel) ⟨Nat.le_of_ble_eq_true rfl, Nat.le_of_ble_eq_true rfl⟩) ⟨fun a U g mk q => by obtain ⟨q0, q1, qP, qK, qD, qhI_, qhB_, qhW_, qhZ⟩ := q; exact ⟨q0, q1, qP, va_K.moved (u := U) (U := U.calling g mk a) (Vm.Alike.refl U.vm) qK, qD, qhI_.same rfl rfl, qhB_.same rfl rfl, qhW_.same rfl rfl, qhZ.same rfl rfl⟩, va_recv hY.2.1 (hY.P hS) (ci := 6) (q0 := 0) rfl rfl, fun U hU hW => ⟨rfl, by rw [hU], by rw [hU]; exact hPc, va_K.moved hW.alike hKc, hDc.weaken (fun _ _ _ _ => trivial), hI_.call hS hU hW (fun q h => hFc q h), hB_.call hS hU hW (fun q h => hFc q h), hW_.call hS hU hW (fun q h => hFc q h), hY.call hS hU hW (fun q h => hFc q h)⟩⟩ rfl rfl hl.1 rfl (lv_room (Nat.le_of_ble_eq_true rfl)) dX11_act_81 ⟨Nat.le_of_ble_eq_true rfl, Nat.le_of_ble_eq_true rfl⟩) hS (fun q _ h => hFc q h) hFc (fun r_158 u tC H1 locs htC hvm hw_159 hB hz1 hk1 hS => ?_)
        obtain ⟨mdc9_160, aEl9_161, cEl9_162, sz_9_163, fEl9_164⟩ := u
        try dsimp only at hw_159 hB
        obtain ⟨hP1, hK1, hD1⟩ := hB
        rw [htC] at hP1
        have hK1 := va_K.moved hvm.symm hK1
        obtain ⟨hP, hD⟩ := va_join (wr := [(h0, .inr (13, [.ref sc, .ref kp, .int ik, .ref bl, .ref go, .ref ch, .ref bo])), (sc, .inr (10, [.ref aTp, .int (nI ts), .ref aHl, .int (nI nh), .long ed, .int mi, .int sn, .ref aHs, .int (nI n), .ref aWk, .int (nI wz), .ref aBk, .int (nI bz), .ref aFc])), (aHs, .inl (cHs, 8, .inr (.inr (.inr (.inr fHs)))))]) (w1 := [(bo, .inr (1, [.int mdc9_160, .ref aEl9_161, .int (nI sz_9_163)])), (aEl9_161, .inl (cEl9_162, 10, .inr (.inr (.inr (.inr fEl9_164)))))]) hP hD [3] [0, 1, 2] rfl rfl (by decide) (by decide) hk1 hFc hP1 hD1
        have hK := (hK.sub (tys' := [(cHs, .object "MistHeaps$Heap")]) [0] rfl).app hK1
        generalize H1 = H at hP hS ⊢
        have hP : va_P (dC, dI) vwCl [(h0, .inr (13, [.ref sc, .ref kp, .int ik, .ref bl, .ref go, .ref ch, .ref bo])), (sc, .inr (10, [.ref aTp, .int (nI ts), .ref aHl, .int (nI nh), .long ed, .int mi, .int sn, .ref aHs, .int (nI n), .ref aWk, .int (nI wz), .ref aBk, .int (nI bz), .ref aFc])), (aHs, .inl (cHs, 8, .inr (.inr (.inr (.inr fHs))))), (bo, .inr (1, [.int mdc9_160, .ref aEl9_161, .int (nI sz_9_163)])), (aEl9_161, .inl (cEl9_162, 10, .inr (.inr (.inr (.inr fEl9_164)))))] H := hP
        have hD : va_D A [(h0, .inr (13, [.ref sc, .ref kp, .int ik, .ref bl, .ref go, .ref ch, .ref bo])), (sc, .inr (10, [.ref aTp, .int (nI ts), .ref aHl, .int (nI nh), .long ed, .int mi, .int sn, .ref aHs, .int (nI n), .ref aWk, .int (nI wz), .ref aBk, .int (nI bz), .ref aFc])), (aHs, .inl (cHs, 8, .inr (.inr (.inr (.inr fHs))))), (bo, .inr (1, [.int mdc9_160, .ref aEl9_161, .int (nI sz_9_163)])), (aEl9_161, .inl (cEl9_162, 10, .inr (.inr (.inr (.inr fEl9_164)))))] := hD
        have hK : va_K (dC, dI) vwCl [(cHs, .object "MistHeaps$Heap"), (cEl9_162, .object "java/lang/Object")] s := hK
        refine W.widen (k := 1) (n := 10) (by omega) (by omega) ?_
        obtain ⟨h_165, hL_166⟩ := hw_159
        rw [hQ]
        have hP9 := hP.sub (ws' := [(h0, .inr (13, [.ref sc, .ref kp, .int ik, .ref bl, .ref go, .ref ch, .ref bo])), (sc, .inr (10, [.ref aTp, .int (nI ts), .ref aHl, .int (nI nh), .long ed, .int mi, .int sn, .ref aHs, .int (nI n), .ref aWk, .int (nI wz), .ref aBk, .int (nI bz), .ref aFc])), (aHs, .inl (cHs, 8, .inr (.inr (.inr (.inr fHs))))), (bo, .inr (1, [.int mdc9_160, .ref aEl9_161, .int (nI sz_9_163)])), (aEl9_161, .inl (cEl9_162, 10, .inr (.inr (.inr (.inr fEl9_164)))))]) [0, 1, 2, 3, 4] rfl
        have hD9 := hD.sub (ws' := [(h0, .inr (13, [.ref sc, .ref kp, .int ik, .ref bl, .ref go, .ref ch, .ref bo])), (sc, .inr (10, [.ref aTp, .int (nI ts), .ref aHl, .int (nI nh), .long ed, .int mi, .int sn, .ref aHs, .int (nI n), .ref aWk, .int (nI wz), .ref aBk, .int (nI bz), .ref aFc])), (aHs, .inl (cHs, 8, .inr (.inr (.inr (.inr fHs))))), (bo, .inr (1, [.int mdc9_160, .ref aEl9_161, .int (nI sz_9_163)])), (aEl9_161, .inl (cEl9_162, 10, .inr (.inr (.inr (.inr fEl9_164)))))]) [0, 1, 2, 3, 4] (by decide) rfl
        have hK9 := hK.sub (tys' := [(cHs, .object "MistHeaps$Heap"), (cEl9_162, .object "java/lang/Object")]) [0, 1] rfl
        refine W.widen (k := 1) (n := 10) (by omega) (by omega) ?_
        exact W.iret (v := r_158) hx hb hr (fun tQ htQ hWQ => ⟨⟨r_158, ([(bo, .inr (1, [.int mdc9_160, .ref aEl9_161, .int (nI sz_9_163)])), (aEl9_161, .inl (cEl9_162, 10, .inr (.inr (.inr (.inr fEl9_164)))))], [(cEl9_162, .object "java/lang/Object")]), rfl, Or.inr ⟨_, _, _, _, _, rfl, rfl, by omega, hL_166⟩, by rw [htQ]; exact hP9, va_K.moved hWQ.alike hK9, hD9⟩, hS.F htQ⟩) hS.2.2 dX11_act_84
      · skip
        have hY : Fz dC dI [((ya j_6), .inr (8, [.int (yk j_6), .int (nI j_6), .int (yv j_6), .int (yc j_6)]))] [] A s := by have h9 := (hH_ j_6 (by omega)).2; rw [hpE, e_139] at h9; exact h9
        have hPc := hP.sub (ws' := [(bo, .inr (1, [.int mdc9_3, .ref bS, .int 0]))]) [3] rfl
        have hDc := hD.sub (ws' := [(bo, .inr (1, [.int mdc9_3, .ref bS, .int 0]))]) [3] (by decide) rfl
        have hKc := hK.sub (tys' := []) [] rfl
        have hFc := va_free (wc := [(bo, .inr (1, [.int mdc9_3, .ref bS, .int 0]))]) hD hS hA [3] rfl
        refine va_calli (va_runU (As := [.int z, .ref bo]) (rest := []) ⟨hx, hb, hml, hown, hts⟩ (c_X3_doLooks_X6_0 l dC dI ad cB bS    bo j_6 (yk j_6) (yv j_6) (yc j_6) z (ya j_6) mdc9_3 H.size) (va_cwU 2 hts gX11_act_X3_doLooks_u240X6 rfl rfl rfl rfl (by decide +kernel) ⟨Nat.le_of_ble_eq_true rfl, Nat.le_of_ble_eq_true rfl⟩) ⟨fun a U g mk q => by obtain ⟨q0, q1, qP, qK, qD, qhI_, qhB_, qhW_, qhZ⟩ := q; exact ⟨q0, q1, qP, va_K.moved (u := U) (U := U.calling g mk a) (Vm.Alike.refl U.vm) qK, qD, qhI_.same rfl rfl, qhB_.same rfl rfl, qhW_.same rfl rfl, qhZ.same rfl rfl⟩, va_recv hY.2.1 (hY.P hS) (ci := 8) (q0 := 0) rfl rfl, fun U hU hW => ⟨rfl, by rw [hU], by rw [hU]; exact hPc, va_K.moved hW.alike hKc, hDc.weaken (fun _ _ _ _ => trivial), hI_.call hS hU hW (fun q h => hFc q h), hB_.call hS hU hW (fun q h => hFc q h), hW_.call hS hU hW (fun q h => hFc q h), hY.call hS hU hW (fun q h => hFc q h)⟩⟩ rfl rfl hl.1 rfl (lv_room (Nat.le_of_ble_eq_true rfl)) dX11_act_81 ⟨Nat.le_of_ble_eq_true rfl, Nat.le_of_ble_eq_true rfl⟩) hS (fun q _ h => hFc q h) hFc (fun r_167 u tC H1 locs htC hvm hw_168 hB hz1 hk1 hS => ?_)
        obtain ⟨mdc9_169, aEl9_170, cEl9_171, sz_9_172, fEl9_173⟩ := u
        try dsimp only at hw_168 hB
        obtain ⟨hP1, hK1, hD1⟩ := hB
        rw [htC] at hP1
        have hK1 := va_K.moved hvm.symm hK1
        obtain ⟨hP, hD⟩ := va_join (wr := [(h0, .inr (13, [.ref sc, .ref kp, .int ik, .ref bl, .ref go, .ref ch, .ref bo])), (sc, .inr (10, [.ref aTp, .int (nI ts), .ref aHl, .int (nI nh), .long ed, .int mi, .int sn, .ref aHs, .int (nI n), .ref aWk, .int (nI wz), .ref aBk, .int (nI bz), .ref aFc])), (aHs, .inl (cHs, 8, .inr (.inr (.inr (.inr fHs)))))]) (w1 := [(bo, .inr (1, [.int mdc9_169, .ref aEl9_170, .int (nI sz_9_172)])), (aEl9_170, .inl (cEl9_171, 10, .inr (.inr (.inr (.inr fEl9_173)))))]) hP hD [3] [0, 1, 2] rfl rfl (by decide) (by decide) hk1 hFc hP1 hD1
        have hK := (hK.sub (tys' := [(cHs, .object "MistHeaps$Heap")]) [0] rfl).app hK1
        generalize H1 = H at hP hS ⊢
        have hP : va_P (dC, dI) vwCl [(h0, .inr (13, [.ref sc, .ref kp, .int ik, .ref bl, .ref go, .ref ch, .ref bo])), (sc, .inr (10, [.ref aTp, .int (nI ts), .ref aHl, .int (nI nh), .long ed, .int mi, .int sn, .ref aHs, .int (nI n), .ref aWk, .int (nI wz), .ref aBk, .int (nI bz), .ref aFc])), (aHs, .inl (cHs, 8, .inr (.inr (.inr (.inr fHs))))), (bo, .inr (1, [.int mdc9_169, .ref aEl9_170, .int (nI sz_9_172)])), (aEl9_170, .inl (cEl9_171, 10, .inr (.inr (.inr (.inr fEl9_173)))))] H := hP
        have hD : va_D A [(h0, .inr (13, [.ref sc, .ref kp, .int ik, .ref bl, .ref go, .ref ch, .ref bo])), (sc, .inr (10, [.ref aTp, .int (nI ts), .ref aHl, .int (nI nh), .long ed, .int mi, .int sn, .ref aHs, .int (nI n), .ref aWk, .int (nI wz), .ref aBk, .int (nI bz), .ref aFc])), (aHs, .inl (cHs, 8, .inr (.inr (.inr (.inr fHs))))), (bo, .inr (1, [.int mdc9_169, .ref aEl9_170, .int (nI sz_9_172)])), (aEl9_170, .inl (cEl9_171, 10, .inr (.inr (.inr (.inr fEl9_173)))))] := hD
        have hK : va_K (dC, dI) vwCl [(cHs, .object "MistHeaps$Heap"), (cEl9_171, .object "java/lang/Object")] s := hK
        refine W.widen (k := 1) (n := 10) (by omega) (by omega) ?_
        obtain ⟨h_174, hL_175⟩ := hw_168
        rw [hQ]
        have hP9 := hP.sub (ws' := [(h0, .inr (13, [.ref sc, .ref kp, .int ik, .ref bl, .ref go, .ref ch, .ref bo])), (sc, .inr (10, [.ref aTp, .int (nI ts), .ref aHl, .int (nI nh), .long ed, .int mi, .int sn, .ref aHs, .int (nI n), .ref aWk, .int (nI wz), .ref aBk, .int (nI bz), .ref aFc])), (aHs, .inl (cHs, 8, .inr (.inr (.inr (.inr fHs))))), (bo, .inr (1, [.int mdc9_169, .ref aEl9_170, .int (nI sz_9_172)])), (aEl9_170, .inl (cEl9_171, 10, .inr (.inr (.inr (.inr fEl9_173)))))]) [0, 1, 2, 3, 4] rfl
        have hD9 := hD.sub (ws' := [(h0, .inr (13, [.ref sc, .ref kp, .int ik, .ref bl, .ref go, .ref ch, .ref bo])), (sc, .inr (10, [.ref aTp, .int (nI ts), .ref aHl, .int (nI nh), .long ed, .int mi, .int sn, .ref aHs, .int (nI n), .ref aWk, .int (nI wz), .ref aBk, .int (nI bz), .ref aFc])), (aHs, .inl (cHs, 8, .inr (.inr (.inr (.inr fHs))))), (bo, .inr (1, [.int mdc9_169, .ref aEl9_170, .int (nI sz_9_172)])), (aEl9_170, .inl (cEl9_171, 10, .inr (.inr (.inr (.inr fEl9_173)))))]) [0, 1, 2, 3, 4] (by decide) rfl
        have hK9 := hK.sub (tys' := [(cHs, .object "MistHeaps$Heap"), (cEl9_171, .object "java/lang/Object")]) [0, 1] rfl
        refine W.widen (k := 1) (n := 10) (by omega) (by omega) ?_
        exact W.iret (v := r_167) hx hb hr (fun tQ htQ hWQ => ⟨⟨r_167, ([(bo, .inr (1, [.int mdc9_169, .ref aEl9_170, .int (nI sz_9_172)])), (aEl9_170, .inl (cEl9_171, 10, .inr (.inr (.inr (.inr fEl9_173)))))], [(cEl9_171, .object "java/lang/Object")]), rfl, Or.inr ⟨_, _, _, _, _, rfl, rfl, by omega, hL_175⟩, by rw [htQ]; exact hP9, va_K.moved hWQ.alike hK9, hD9⟩, hS.F htQ⟩) hS.2.2 dX11_act_84
      · skip
        have hY : Fz dC dI [((ya j_6), .inr (9, [.int (yk j_6), .int (nI j_6), .int (yv j_6), .int (yc j_6)]))] [] A s := by have h9 := (hH_ j_6 (by omega)).2; rw [hpE, e_139] at h9; exact h9
        have hPc := hP.sub (ws' := [(bo, .inr (1, [.int mdc9_3, .ref bS, .int 0]))]) [3] rfl
        have hDc := hD.sub (ws' := [(bo, .inr (1, [.int mdc9_3, .ref bS, .int 0]))]) [3] (by decide) rfl
        have hKc := hK.sub (tys' := []) [] rfl
        have hFc := va_free (wc := [(bo, .inr (1, [.int mdc9_3, .ref bS, .int 0]))]) hD hS hA [3] rfl
        refine va_calli (va_runU (As := [.int z, .ref bo]) (rest := []) ⟨hx, hb, hml, hown, hts⟩ (c_X1_doLooks_X7_0 l dC dI ad cB bS    bo j_6 (yk j_6) (yv j_6) (yc j_6) z (ya j_6) mdc9_3 H.size) (va_cwO 2 hts gX11_act_X1_doLooks_u240X7 rfl rfl rfl kc_xAct0_5 (by decide +kernel) ⟨Nat.le_of_ble_eq_true rfl, Nat.le_of_ble_eq_true rfl⟩) ⟨fun a U g mk q => by obtain ⟨q0, q1, qP, qK, qD, qhI_, qhB_, qhW_, qhZ⟩ := q; exact ⟨q0, q1, qP, va_K.moved (u := U) (U := U.calling g mk a) (Vm.Alike.refl U.vm) qK, qD, qhI_.same rfl rfl, qhB_.same rfl rfl, qhW_.same rfl rfl, qhZ.same rfl rfl⟩, va_recv hY.2.1 (hY.P hS) (ci := 9) (q0 := 0) rfl rfl, fun U hU hW => ⟨rfl, by rw [hU], by rw [hU]; exact hPc, va_K.moved hW.alike hKc, hDc.weaken (fun _ _ _ _ => trivial), hI_.call hS hU hW (fun q h => hFc q h), hB_.call hS hU hW (fun q h => hFc q h), hW_.call hS hU hW (fun q h => hFc q h), hY.call hS hU hW (fun q h => hFc q h)⟩⟩ rfl rfl hl.1 rfl (lv_room (Nat.le_of_ble_eq_true rfl)) dX11_act_81 ⟨Nat.le_of_ble_eq_true rfl, Nat.le_of_ble_eq_true rfl⟩) hS (fun q _ h => hFc q h) hFc (fun r_176 u tC H1 locs htC hvm hw_177 hB hz1 hk1 hS => ?_)
        obtain ⟨mdc9_178, aEl9_179, cEl9_180, sz_9_181, fEl9_182⟩ := u
        try dsimp only at hw_177 hB
        obtain ⟨hP1, hK1, hD1⟩ := hB
        rw [htC] at hP1
        have hK1 := va_K.moved hvm.symm hK1
        obtain ⟨hP, hD⟩ := va_join (wr := [(h0, .inr (13, [.ref sc, .ref kp, .int ik, .ref bl, .ref go, .ref ch, .ref bo])), (sc, .inr (10, [.ref aTp, .int (nI ts), .ref aHl, .int (nI nh), .long ed, .int mi, .int sn, .ref aHs, .int (nI n), .ref aWk, .int (nI wz), .ref aBk, .int (nI bz), .ref aFc])), (aHs, .inl (cHs, 8, .inr (.inr (.inr (.inr fHs)))))]) (w1 := [(bo, .inr (1, [.int mdc9_178, .ref aEl9_179, .int (nI sz_9_181)])), (aEl9_179, .inl (cEl9_180, 10, .inr (.inr (.inr (.inr fEl9_182)))))]) hP hD [3] [0, 1, 2] rfl rfl (by decide) (by decide) hk1 hFc hP1 hD1
        have hK := (hK.sub (tys' := [(cHs, .object "MistHeaps$Heap")]) [0] rfl).app hK1
        generalize H1 = H at hP hS ⊢
        have hP : va_P (dC, dI) vwCl [(h0, .inr (13, [.ref sc, .ref kp, .int ik, .ref bl, .ref go, .ref ch, .ref bo])), (sc, .inr (10, [.ref aTp, .int (nI ts), .ref aHl, .int (nI nh), .long ed, .int mi, .int sn, .ref aHs, .int (nI n), .ref aWk, .int (nI wz), .ref aBk, .int (nI bz), .ref aFc])), (aHs, .inl (cHs, 8, .inr (.inr (.inr (.inr fHs))))), (bo, .inr (1, [.int mdc9_178, .ref aEl9_179, .int (nI sz_9_181)])), (aEl9_179, .inl (cEl9_180, 10, .inr (.inr (.inr (.inr fEl9_182)))))] H := hP
        have hD : va_D A [(h0, .inr (13, [.ref sc, .ref kp, .int ik, .ref bl, .ref go, .ref ch, .ref bo])), (sc, .inr (10, [.ref aTp, .int (nI ts), .ref aHl, .int (nI nh), .long ed, .int mi, .int sn, .ref aHs, .int (nI n), .ref aWk, .int (nI wz), .ref aBk, .int (nI bz), .ref aFc])), (aHs, .inl (cHs, 8, .inr (.inr (.inr (.inr fHs))))), (bo, .inr (1, [.int mdc9_178, .ref aEl9_179, .int (nI sz_9_181)])), (aEl9_179, .inl (cEl9_180, 10, .inr (.inr (.inr (.inr fEl9_182)))))] := hD
        have hK : va_K (dC, dI) vwCl [(cHs, .object "MistHeaps$Heap"), (cEl9_180, .object "java/lang/Object")] s := hK
        refine W.widen (k := 1) (n := 10) (by omega) (by omega) ?_
        obtain ⟨h_183, hL_184⟩ := hw_177
        rw [hQ]
        have hP9 := hP.sub (ws' := [(h0, .inr (13, [.ref sc, .ref kp, .int ik, .ref bl, .ref go, .ref ch, .ref bo])), (sc, .inr (10, [.ref aTp, .int (nI ts), .ref aHl, .int (nI nh), .long ed, .int mi, .int sn, .ref aHs, .int (nI n), .ref aWk, .int (nI wz), .ref aBk, .int (nI bz), .ref aFc])), (aHs, .inl (cHs, 8, .inr (.inr (.inr (.inr fHs))))), (bo, .inr (1, [.int mdc9_178, .ref aEl9_179, .int (nI sz_9_181)])), (aEl9_179, .inl (cEl9_180, 10, .inr (.inr (.inr (.inr fEl9_182)))))]) [0, 1, 2, 3, 4] rfl
        have hD9 := hD.sub (ws' := [(h0, .inr (13, [.ref sc, .ref kp, .int ik, .ref bl, .ref go, .ref ch, .ref bo])), (sc, .inr (10, [.ref aTp, .int (nI ts), .ref aHl, .int (nI nh), .long ed, .int mi, .int sn, .ref aHs, .int (nI n), .ref aWk, .int (nI wz), .ref aBk, .int (nI bz), .ref aFc])), (aHs, .inl (cHs, 8, .inr (.inr (.inr (.inr fHs))))), (bo, .inr (1, [.int mdc9_178, .ref aEl9_179, .int (nI sz_9_181)])), (aEl9_179, .inl (cEl9_180, 10, .inr (.inr (.inr (.inr fEl9_182)))))]) [0, 1, 2, 3, 4] (by decide) rfl
        have hK9 := hK.sub (tys' := [(cHs, .object "MistHeaps$Heap"), (cEl9_180, .object "java/lang/Object")]) [0, 1] rfl
        refine W.widen (k := 1) (n := 10) (by omega) (by omega) ?_
        exact W.iret (v := r_176) hx hb hr (fun tQ htQ hWQ => ⟨⟨r_176, ([(bo, .inr (1, [.int mdc9_178, .ref aEl9_179, .int (nI sz_9_181)])), (aEl9_179, .inl (cEl9_180, 10, .inr (.inr (.inr (.inr fEl9_182)))))], [(cEl9_180, .object "java/lang/Object")]), rfl, Or.inr ⟨_, _, _, _, _, rfl, rfl, by omega, hL_184⟩, by rw [htQ]; exact hP9, va_K.moved hWQ.alike hK9, hD9⟩, hS.F htQ⟩) hS.2.2 dX11_act_84
      · skip
        have hY : Fz dC dI [((ya j_6), .inr (11, [.int (yk j_6), .int (nI j_6), .int (yv j_6), .int (yc j_6)]))] [] A s := by have h9 := (hH_ j_6 (by omega)).2; rw [hpE, e_139] at h9; exact h9
        have hPc := hP.sub (ws' := [(bo, .inr (1, [.int mdc9_3, .ref bS, .int 0]))]) [3] rfl
        have hDc := hD.sub (ws' := [(bo, .inr (1, [.int mdc9_3, .ref bS, .int 0]))]) [3] (by decide) rfl
        have hKc := hK.sub (tys' := []) [] rfl
        have hFc := va_free (wc := [(bo, .inr (1, [.int mdc9_3, .ref bS, .int 0]))]) hD hS hA [3] rfl
        refine va_calli (va_runU (As := [.int z, .ref bo]) (rest := []) ⟨hx, hb, hml, hown, hts⟩ (c_X3_doLooks_X9_0 l dC dI ad cB bS    bo j_6 (yk j_6) (yv j_6) (yc j_6) z (ya j_6) mdc9_3 H.size) (va_cwU 2 hts gX11_act_X3_doLooks_u240X9 rfl rfl rfl rfl (by decide +kernel) ⟨Nat.le_of_ble_eq_true rfl, Nat.le_of_ble_eq_true rfl⟩) ⟨fun a U g mk q => by obtain ⟨q0, q1, qP, qK, qD, qhI_, qhB_, qhW_, qhZ⟩ := q; exact ⟨q0, q1, qP, va_K.moved (u := U) (U := U.calling g mk a) (Vm.Alike.refl U.vm) qK, qD, qhI_.same rfl rfl, qhB_.same rfl rfl, qhW_.same rfl rfl, qhZ.same rfl rfl⟩, va_recv hY.2.1 (hY.P hS) (ci := 11) (q0 := 0) rfl rfl, fun U hU hW => ⟨rfl, by rw [hU], by rw [hU]; exact hPc, va_K.moved hW.alike hKc, hDc.weaken (fun _ _ _ _ => trivial), hI_.call hS hU hW (fun q h => hFc q h), hB_.call hS hU hW (fun q h => hFc q h), hW_.call hS hU hW (fun q h => hFc q h), hY.call hS hU hW (fun q h => hFc q h)⟩⟩ rfl rfl hl.1 rfl (lv_room (Nat.le_of_ble_eq_true rfl)) dX11_act_81 ⟨Nat.le_of_ble_eq_true rfl, Nat.le_of_ble_eq_true rfl⟩) hS (fun q _ h => hFc q h) hFc (fun r_185 u tC H1 locs htC hvm hw_186 hB hz1 hk1 hS => ?_)
        obtain ⟨mdc9_187, aEl9_188, cEl9_189, sz_9_190, fEl9_191⟩ := u
        try dsimp only at hw_186 hB
        obtain ⟨hP1, hK1, hD1⟩ := hB
        rw [htC] at hP1
        have hK1 := va_K.moved hvm.symm hK1
        obtain ⟨hP, hD⟩ := va_join (wr := [(h0, .inr (13, [.ref sc, .ref kp, .int ik, .ref bl, .ref go, .ref ch, .ref bo])), (sc, .inr (10, [.ref aTp, .int (nI ts), .ref aHl, .int (nI nh), .long ed, .int mi, .int sn, .ref aHs, .int (nI n), .ref aWk, .int (nI wz), .ref aBk, .int (nI bz), .ref aFc])), (aHs, .inl (cHs, 8, .inr (.inr (.inr (.inr fHs)))))]) (w1 := [(bo, .inr (1, [.int mdc9_187, .ref aEl9_188, .int (nI sz_9_190)])), (aEl9_188, .inl (cEl9_189, 10, .inr (.inr (.inr (.inr fEl9_191)))))]) hP hD [3] [0, 1, 2] rfl rfl (by decide) (by decide) hk1 hFc hP1 hD1
        have hK := (hK.sub (tys' := [(cHs, .object "MistHeaps$Heap")]) [0] rfl).app hK1
        generalize H1 = H at hP hS ⊢
        have hP : va_P (dC, dI) vwCl [(h0, .inr (13, [.ref sc, .ref kp, .int ik, .ref bl, .ref go, .ref ch, .ref bo])), (sc, .inr (10, [.ref aTp, .int (nI ts), .ref aHl, .int (nI nh), .long ed, .int mi, .int sn, .ref aHs, .int (nI n), .ref aWk, .int (nI wz), .ref aBk, .int (nI bz), .ref aFc])), (aHs, .inl (cHs, 8, .inr (.inr (.inr (.inr fHs))))), (bo, .inr (1, [.int mdc9_187, .ref aEl9_188, .int (nI sz_9_190)])), (aEl9_188, .inl (cEl9_189, 10, .inr (.inr (.inr (.inr fEl9_191)))))] H := hP
        have hD : va_D A [(h0, .inr (13, [.ref sc, .ref kp, .int ik, .ref bl, .ref go, .ref ch, .ref bo])), (sc, .inr (10, [.ref aTp, .int (nI ts), .ref aHl, .int (nI nh), .long ed, .int mi, .int sn, .ref aHs, .int (nI n), .ref aWk, .int (nI wz), .ref aBk, .int (nI bz), .ref aFc])), (aHs, .inl (cHs, 8, .inr (.inr (.inr (.inr fHs))))), (bo, .inr (1, [.int mdc9_187, .ref aEl9_188, .int (nI sz_9_190)])), (aEl9_188, .inl (cEl9_189, 10, .inr (.inr (.inr (.inr fEl9_191)))))] := hD
        have hK : va_K (dC, dI) vwCl [(cHs, .object "MistHeaps$Heap"), (cEl9_189, .object "java/lang/Object")] s := hK
        refine W.widen (k := 1) (n := 10) (by omega) (by omega) ?_
        obtain ⟨h_192, hL_193⟩ := hw_186
        rw [hQ]
        have hP9 := hP.sub (ws' := [(h0, .inr (13, [.ref sc, .ref kp, .int ik, .ref bl, .ref go, .ref ch, .ref bo])), (sc, .inr (10, [.ref aTp, .int (nI ts), .ref aHl, .int (nI nh), .long ed, .int mi, .int sn, .ref aHs, .int (nI n), .ref aWk, .int (nI wz), .ref aBk, .int (nI bz), .ref aFc])), (aHs, .inl (cHs, 8, .inr (.inr (.inr (.inr fHs))))), (bo, .inr (1, [.int mdc9_187, .ref aEl9_188, .int (nI sz_9_190)])), (aEl9_188, .inl (cEl9_189, 10, .inr (.inr (.inr (.inr fEl9_191)))))]) [0, 1, 2, 3, 4] rfl
        have hD9 := hD.sub (ws' := [(h0, .inr (13, [.ref sc, .ref kp, .int ik, .ref bl, .ref go, .ref ch, .ref bo])), (sc, .inr (10, [.ref aTp, .int (nI ts), .ref aHl, .int (nI nh), .long ed, .int mi, .int sn, .ref aHs, .int (nI n), .ref aWk, .int (nI wz), .ref aBk, .int (nI bz), .ref aFc])), (aHs, .inl (cHs, 8, .inr (.inr (.inr (.inr fHs))))), (bo, .inr (1, [.int mdc9_187, .ref aEl9_188, .int (nI sz_9_190)])), (aEl9_188, .inl (cEl9_189, 10, .inr (.inr (.inr (.inr fEl9_191)))))]) [0, 1, 2, 3, 4] (by decide) rfl
        have hK9 := hK.sub (tys' := [(cHs, .object "MistHeaps$Heap"), (cEl9_189, .object "java/lang/Object")]) [0, 1] rfl
        refine W.widen (k := 1) (n := 10) (by omega) (by omega) ?_
        exact W.iret (v := r_185) hx hb hr (fun tQ htQ hWQ => ⟨⟨r_185, ([(bo, .inr (1, [.int mdc9_187, .ref aEl9_188, .int (nI sz_9_190)])), (aEl9_188, .inl (cEl9_189, 10, .inr (.inr (.inr (.inr fEl9_191)))))], [(cEl9_189, .object "java/lang/Object")]), rfl, Or.inr ⟨_, _, _, _, _, rfl, rfl, by omega, hL_193⟩, by rw [htQ]; exact hP9, va_K.moved hWQ.alike hK9, hD9⟩, hS.F htQ⟩) hS.2.2 dX11_act_84
      · skip
        have hY : Fz dC dI [((ya j_6), .inr (12, [.int (yk j_6), .int (nI j_6), .int (yv j_6), .int (yc j_6)]))] [] A s := by have h9 := (hH_ j_6 (by omega)).2; rw [hpE, e_139] at h9; exact h9
        have hPc := hP.sub (ws' := [(bo, .inr (1, [.int mdc9_3, .ref bS, .int 0]))]) [3] rfl
        have hDc := hD.sub (ws' := [(bo, .inr (1, [.int mdc9_3, .ref bS, .int 0]))]) [3] (by decide) rfl
        have hKc := hK.sub (tys' := []) [] rfl
        have hFc := va_free (wc := [(bo, .inr (1, [.int mdc9_3, .ref bS, .int 0]))]) hD hS hA [3] rfl
        refine va_calli (va_runU (As := [.int z, .ref bo]) (rest := []) ⟨hx, hb, hml, hown, hts⟩ (c_X10_doLooks_X10_0 l dC dI ad cB bS    bo j_6 (yk j_6) (yv j_6) (yc j_6) z (ya j_6) mdc9_3 H.size) (va_cwO 2 hts gX11_act_X10_doLooks_u240X10 rfl rfl rfl kc_xAct0_5 (by decide +kernel) ⟨Nat.le_of_ble_eq_true rfl, Nat.le_of_ble_eq_true rfl⟩) ⟨fun a U g mk q => by obtain ⟨q0, q1, qP, qK, qD, qhI_, qhB_, qhW_, qhZ⟩ := q; exact ⟨q0, q1, qP, va_K.moved (u := U) (U := U.calling g mk a) (Vm.Alike.refl U.vm) qK, qD, qhI_.same rfl rfl, qhB_.same rfl rfl, qhW_.same rfl rfl, qhZ.same rfl rfl⟩, va_recv hY.2.1 (hY.P hS) (ci := 12) (q0 := 0) rfl rfl, fun U hU hW => ⟨rfl, by rw [hU], by rw [hU]; exact hPc, va_K.moved hW.alike hKc, hDc.weaken (fun _ _ _ _ => trivial), hI_.call hS hU hW (fun q h => hFc q h), hB_.call hS hU hW (fun q h => hFc q h), hW_.call hS hU hW (fun q h => hFc q h), hY.call hS hU hW (fun q h => hFc q h)⟩⟩ rfl rfl hl.1 rfl (lv_room (Nat.le_of_ble_eq_true rfl)) dX11_act_81 ⟨Nat.le_of_ble_eq_true rfl, Nat.le_of_ble_eq_true rfl⟩) hS (fun q _ h => hFc q h) hFc (fun r_194 u tC H1 locs htC hvm hw_195 hB hz1 hk1 hS => ?_)
        obtain ⟨mdc9_196, aEl9_197, cEl9_198, sz_9_199, fEl9_200⟩ := u
        try dsimp only at hw_195 hB
        obtain ⟨hP1, hK1, hD1⟩ := hB
        rw [htC] at hP1
        have hK1 := va_K.moved hvm.symm hK1
        obtain ⟨hP, hD⟩ := va_join (wr := [(h0, .inr (13, [.ref sc, .ref kp, .int ik, .ref bl, .ref go, .ref ch, .ref bo])), (sc, .inr (10, [.ref aTp, .int (nI ts), .ref aHl, .int (nI nh), .long ed, .int mi, .int sn, .ref aHs, .int (nI n), .ref aWk, .int (nI wz), .ref aBk, .int (nI bz), .ref aFc])), (aHs, .inl (cHs, 8, .inr (.inr (.inr (.inr fHs)))))]) (w1 := [(bo, .inr (1, [.int mdc9_196, .ref aEl9_197, .int (nI sz_9_199)])), (aEl9_197, .inl (cEl9_198, 10, .inr (.inr (.inr (.inr fEl9_200)))))]) hP hD [3] [0, 1, 2] rfl rfl (by decide) (by decide) hk1 hFc hP1 hD1
        have hK := (hK.sub (tys' := [(cHs, .object "MistHeaps$Heap")]) [0] rfl).app hK1
        generalize H1 = H at hP hS ⊢
        have hP : va_P (dC, dI) vwCl [(h0, .inr (13, [.ref sc, .ref kp, .int ik, .ref bl, .ref go, .ref ch, .ref bo])), (sc, .inr (10, [.ref aTp, .int (nI ts), .ref aHl, .int (nI nh), .long ed, .int mi, .int sn, .ref aHs, .int (nI n), .ref aWk, .int (nI wz), .ref aBk, .int (nI bz), .ref aFc])), (aHs, .inl (cHs, 8, .inr (.inr (.inr (.inr fHs))))), (bo, .inr (1, [.int mdc9_196, .ref aEl9_197, .int (nI sz_9_199)])), (aEl9_197, .inl (cEl9_198, 10, .inr (.inr (.inr (.inr fEl9_200)))))] H := hP
        have hD : va_D A [(h0, .inr (13, [.ref sc, .ref kp, .int ik, .ref bl, .ref go, .ref ch, .ref bo])), (sc, .inr (10, [.ref aTp, .int (nI ts), .ref aHl, .int (nI nh), .long ed, .int mi, .int sn, .ref aHs, .int (nI n), .ref aWk, .int (nI wz), .ref aBk, .int (nI bz), .ref aFc])), (aHs, .inl (cHs, 8, .inr (.inr (.inr (.inr fHs))))), (bo, .inr (1, [.int mdc9_196, .ref aEl9_197, .int (nI sz_9_199)])), (aEl9_197, .inl (cEl9_198, 10, .inr (.inr (.inr (.inr fEl9_200)))))] := hD
        have hK : va_K (dC, dI) vwCl [(cHs, .object "MistHeaps$Heap"), (cEl9_198, .object "java/lang/Object")] s := hK
        refine W.widen (k := 1) (n := 10) (by omega) (by omega) ?_
        obtain ⟨h_201, hL_202⟩ := hw_195
        rw [hQ]
        have hP9 := hP.sub (ws' := [(h0, .inr (13, [.ref sc, .ref kp, .int ik, .ref bl, .ref go, .ref ch, .ref bo])), (sc, .inr (10, [.ref aTp, .int (nI ts), .ref aHl, .int (nI nh), .long ed, .int mi, .int sn, .ref aHs, .int (nI n), .ref aWk, .int (nI wz), .ref aBk, .int (nI bz), .ref aFc])), (aHs, .inl (cHs, 8, .inr (.inr (.inr (.inr fHs))))), (bo, .inr (1, [.int mdc9_196, .ref aEl9_197, .int (nI sz_9_199)])), (aEl9_197, .inl (cEl9_198, 10, .inr (.inr (.inr (.inr fEl9_200)))))]) [0, 1, 2, 3, 4] rfl
        have hD9 := hD.sub (ws' := [(h0, .inr (13, [.ref sc, .ref kp, .int ik, .ref bl, .ref go, .ref ch, .ref bo])), (sc, .inr (10, [.ref aTp, .int (nI ts), .ref aHl, .int (nI nh), .long ed, .int mi, .int sn, .ref aHs, .int (nI n), .ref aWk, .int (nI wz), .ref aBk, .int (nI bz), .ref aFc])), (aHs, .inl (cHs, 8, .inr (.inr (.inr (.inr fHs))))), (bo, .inr (1, [.int mdc9_196, .ref aEl9_197, .int (nI sz_9_199)])), (aEl9_197, .inl (cEl9_198, 10, .inr (.inr (.inr (.inr fEl9_200)))))]) [0, 1, 2, 3, 4] (by decide) rfl
        have hK9 := hK.sub (tys' := [(cHs, .object "MistHeaps$Heap"), (cEl9_198, .object "java/lang/Object")]) [0, 1] rfl
        refine W.widen (k := 1) (n := 10) (by omega) (by omega) ?_
        exact W.iret (v := r_194) hx hb hr (fun tQ htQ hWQ => ⟨⟨r_194, ([(bo, .inr (1, [.int mdc9_196, .ref aEl9_197, .int (nI sz_9_199)])), (aEl9_197, .inl (cEl9_198, 10, .inr (.inr (.inr (.inr fEl9_200)))))], [(cEl9_198, .object "java/lang/Object")]), rfl, Or.inr ⟨_, _, _, _, _, rfl, rfl, by omega, hL_202⟩, by rw [htQ]; exact hP9, va_K.moved hWQ.alike hK9, hD9⟩, hS.F htQ⟩) hS.2.2 dX11_act_84
    refine lv_tableOut (tgt := 85) hx hb dX11_act_25 (sw_out 0 2 y (fun k hk => by
      match k, hk with
      | 0, _ => exact c_10_0
      | 1, _ => exact c_10_1
      | 2, _ => exact c_10_2
      | k + 3, hk => exact absurd hk (by omega))) (by decide) ?_
    refine lv_iconst (v := 0) hx hb dX11_act_85 (by decide) ?_
    rw [hQ]
    have hP9 := hP.sub (ws' := [(h0, .inr (13, [.ref sc, .ref kp, .int ik, .ref bl, .ref go, .ref ch, .ref bo])), (sc, .inr (10, [.ref aTp, .int (nI ts), .ref aHl, .int (nI nh), .long ed, .int mi, .int sn, .ref aHs, .int (nI n), .ref aWk, .int (nI wz), .ref aBk, .int (nI bz), .ref aFc])), (aHs, .inl (cHs, 8, .inr (.inr (.inr (.inr fHs))))), (bo, .inr (1, [.int mdc9_3, .ref bS, .int 0]))]) [0, 1, 2, 3] rfl
    have hD9 := hD.sub (ws' := [(h0, .inr (13, [.ref sc, .ref kp, .int ik, .ref bl, .ref go, .ref ch, .ref bo])), (sc, .inr (10, [.ref aTp, .int (nI ts), .ref aHl, .int (nI nh), .long ed, .int mi, .int sn, .ref aHs, .int (nI n), .ref aWk, .int (nI wz), .ref aBk, .int (nI bz), .ref aFc])), (aHs, .inl (cHs, 8, .inr (.inr (.inr (.inr fHs))))), (bo, .inr (1, [.int mdc9_3, .ref bS, .int 0]))]) [0, 1, 2, 3] (by decide) rfl
    have hK9 := hK.sub (tys' := [(cHs, .object "MistHeaps$Heap")]) [0] rfl
    refine W.widen (k := 1) (n := 10) (by omega) (by omega) ?_
    exact W.iret (v := 0) hx hb hr (fun tQ htQ hWQ => ⟨⟨0, ([(bo, .inr (1, [.int mdc9_3, .ref bS, .int 0]))], []), rfl, Or.inl ⟨_, rfl, rfl⟩, by rw [htQ]; exact hP9, va_K.moved hWQ.alike hK9, hD9⟩, hS.F htQ⟩) hS.2.2 dX11_act_86
  · skip
    refine qq_as (v := .null) rfl ?_
    refine lv_astoreN (lv' := [(4, .null), (0, .ref h0), (1, .int x), (2, .int y), (3, .int z)]) hx hb dX11_act_15 hl (by decide) rfl (fun ls hl => ?_)
    refine lv_aloadN hx hb dX11_act_17 (lv_at hl 0 rfl) ?_
    refine lv_ifnonnullN hx hb dX11_act_19 ?_
    refine lv_iconst (v := 0) hx hb dX11_act_22 (by decide) ?_
    rw [hQ]
    have hP9 := hP.sub (ws' := [(h0, .inr (13, [.ref sc, .ref kp, .int ik, .ref bl, .ref go, .ref ch, .ref bo])), (sc, .inr (10, [.ref aTp, .int (nI ts), .ref aHl, .int (nI nh), .long ed, .int mi, .int sn, .ref aHs, .int (nI n), .ref aWk, .int (nI wz), .ref aBk, .int (nI bz), .ref aFc])), (aHs, .inl (cHs, 8, .inr (.inr (.inr (.inr fHs))))), (bo, .inr (1, [.int mdc9_3, .ref bS, .int 0]))]) [0, 1, 2, 3] rfl
    have hD9 := hD.sub (ws' := [(h0, .inr (13, [.ref sc, .ref kp, .int ik, .ref bl, .ref go, .ref ch, .ref bo])), (sc, .inr (10, [.ref aTp, .int (nI ts), .ref aHl, .int (nI nh), .long ed, .int mi, .int sn, .ref aHs, .int (nI n), .ref aWk, .int (nI wz), .ref aBk, .int (nI bz), .ref aFc])), (aHs, .inl (cHs, 8, .inr (.inr (.inr (.inr fHs))))), (bo, .inr (1, [.int mdc9_3, .ref bS, .int 0]))]) [0, 1, 2, 3] (by decide) rfl
    have hK9 := hK.sub (tys' := [(cHs, .object "MistHeaps$Heap")]) [0] rfl
    refine W.widen (k := 1) (n := 10) (by omega) (by omega) ?_
    exact W.iret (v := 0) hx hb hr (fun tQ htQ hWQ => ⟨⟨0, ([(bo, .inr (1, [.int mdc9_3, .ref bS, .int 0]))], []), rfl, Or.inl ⟨_, rfl, rfl⟩, by rw [htQ]; exact hP9, va_K.moved hWQ.alike hK9, hD9⟩, hS.F htQ⟩) hS.2.2 dX11_act_23
