section mg15f
theorem ggX5_readPlain_X5_sign : GoodIn wsX5_readPlain wsX5_sign := gga_of 435 rfl rfl rfl
theorem gX5_readPlain_X5_sign : GoodIn wsX5_readPlain (wsV RX5 93 RX5 yX5_sign wsX5_sign) := goodIn_app (ggh_of [432, 434, 3, 65] rfl rfl rfl) ggX5_readPlain_X5_sign
theorem ggX5_readPlain_X5_readTest : GoodIn wsX5_readPlain wsX5_readTest := gga_of 458 rfl rfl rfl
theorem gX5_readPlain_X5_readTest : GoodIn wsX5_readPlain (wsV RX5 109 RX5 yX5_readTest wsX5_readTest) := goodIn_app (ggh_of [455, 457, 8, 65] rfl rfl rfl) ggX5_readPlain_X5_readTest
theorem ggX5_readBoth_X5_readPlain : GoodIn wsX5_readBoth wsX5_readPlain := gga_of 454 rfl rfl rfl
theorem gX5_readBoth_X5_readPlain : GoodIn wsX5_readBoth (wsV RX5 106 RX5 yX5_readPlain wsX5_readPlain) := goodIn_app (ggh_of [451, 453, 7, 65] rfl rfl rfl) ggX5_readBoth_X5_readPlain
theorem ggX5_readBoth_X5_readSign : GoodIn wsX5_readBoth wsX5_readSign := gga_of 442 rfl rfl rfl
theorem gX5_readBoth_X5_readSign : GoodIn wsX5_readBoth (wsV RX5 51 RX5 yX5_readSign wsX5_readSign) := goodIn_app (ggh_of [439, 441, 4, 65] rfl rfl rfl) ggX5_readBoth_X5_readSign
theorem ggX5_readBoth_X5_code : GoodIn wsX5_readBoth wsX5_code := gga_of 521 rfl rfl rfl
theorem gX5_readBoth_X5_code : GoodIn wsX5_readBoth (wsV RX5 102 RX5 yX5_code wsX5_code) := goodIn_app (ggh_of [518, 520, 9, 65] rfl rfl rfl) ggX5_readBoth_X5_code
theorem ggX5_readEither_X5_readBoth : GoodIn wsX5_readEither wsX5_readBoth := gga_of 450 rfl rfl rfl
theorem gX5_readEither_X5_readBoth : GoodIn wsX5_readEither (wsV RX5 99 RX5 yX5_readBoth wsX5_readBoth) := goodIn_app (ggh_of [447, 449, 6, 65] rfl rfl rfl) ggX5_readEither_X5_readBoth
theorem ggX5_readEither_X5_readSign : GoodIn wsX5_readEither wsX5_readSign := gga_of 442 rfl rfl rfl
theorem gX5_readEither_X5_readSign : GoodIn wsX5_readEither (wsV RX5 51 RX5 yX5_readSign wsX5_readSign) := goodIn_app (ggh_of [439, 441, 4, 65] rfl rfl rfl) ggX5_readEither_X5_readSign
theorem ggX5_readEither_X5_code : GoodIn wsX5_readEither wsX5_code := gga_of 521 rfl rfl rfl
theorem gX5_readEither_X5_code : GoodIn wsX5_readEither (wsV RX5 102 RX5 yX5_code wsX5_code) := goodIn_app (ggh_of [518, 520, 9, 65] rfl rfl rfl) ggX5_readEither_X5_code
noncomputable def dk15flev_cX5_readPlain_0 : List (Nat × List Nat) := [(0, [42]), (1, [182, 0, 93]), (4, [61]), (5, [28]), (6, [16, 33]), (8, [159, 0, 14]), (11, [28]), (12, [16, 40]), (14, [159, 0, 8]), (17, [42]), (18, [182, 0, 109]), (21, [172]), (22, [27]), (23, [8]), (24, [161, 0, 5]), (27, [3]), (28, [172])]
set_option maxRecDepth 100000 in
theorem dk15flev_cX5_readPlain_0_a : btA cX5_readPlain dk15flev_cX5_readPlain_0 = true := by decide +kernel
theorem dX5_readPlain_0 : decode cX5_readPlain 0 = .ok (.aload_n 0, 1) := bd42 (btAt dk15flev_cX5_readPlain_0_a 0 rfl)
theorem dX5_readPlain_1 : decode cX5_readPlain 1 = .ok (.invokevirtual 93, 3) := bd182 (a := 0) (b := 93) (btAt dk15flev_cX5_readPlain_0_a 1 rfl)
theorem dX5_readPlain_4 : decode cX5_readPlain 4 = .ok (.istore_n 2, 1) := bd61 (btAt dk15flev_cX5_readPlain_0_a 2 rfl)
theorem dX5_readPlain_5 : decode cX5_readPlain 5 = .ok (.iload_n 2, 1) := bd28 (btAt dk15flev_cX5_readPlain_0_a 3 rfl)
theorem dX5_readPlain_6 : decode cX5_readPlain 6 = .ok (.bipush 33, 2) := bd16 (a := 33) (btAt dk15flev_cX5_readPlain_0_a 4 rfl)
theorem dX5_readPlain_8 : decode cX5_readPlain 8 = .ok (.if_icmp .eq 14, 3) := bd159 (a := 0) (b := 14) (btAt dk15flev_cX5_readPlain_0_a 5 rfl)
theorem dX5_readPlain_11 : decode cX5_readPlain 11 = .ok (.iload_n 2, 1) := bd28 (btAt dk15flev_cX5_readPlain_0_a 6 rfl)
theorem dX5_readPlain_12 : decode cX5_readPlain 12 = .ok (.bipush 40, 2) := bd16 (a := 40) (btAt dk15flev_cX5_readPlain_0_a 7 rfl)
theorem dX5_readPlain_14 : decode cX5_readPlain 14 = .ok (.if_icmp .eq 8, 3) := bd159 (a := 0) (b := 8) (btAt dk15flev_cX5_readPlain_0_a 8 rfl)
theorem dX5_readPlain_17 : decode cX5_readPlain 17 = .ok (.aload_n 0, 1) := bd42 (btAt dk15flev_cX5_readPlain_0_a 9 rfl)
theorem dX5_readPlain_18 : decode cX5_readPlain 18 = .ok (.invokevirtual 109, 3) := bd182 (a := 0) (b := 109) (btAt dk15flev_cX5_readPlain_0_a 10 rfl)
theorem dX5_readPlain_21 : decode cX5_readPlain 21 = .ok (.ireturn, 1) := bd172 (btAt dk15flev_cX5_readPlain_0_a 11 rfl)
theorem dX5_readPlain_22 : decode cX5_readPlain 22 = .ok (.iload_n 1, 1) := bd27 (btAt dk15flev_cX5_readPlain_0_a 12 rfl)
theorem dX5_readPlain_23 : decode cX5_readPlain 23 = .ok (.iconst 5, 1) := bd8 (btAt dk15flev_cX5_readPlain_0_a 13 rfl)
theorem dX5_readPlain_24 : decode cX5_readPlain 24 = .ok (.if_icmp .lt 5, 3) := bd161 (a := 0) (b := 5) (btAt dk15flev_cX5_readPlain_0_a 14 rfl)
theorem dX5_readPlain_27 : decode cX5_readPlain 27 = .ok (.iconst 0, 1) := bd3 (btAt dk15flev_cX5_readPlain_0_a 15 rfl)
theorem dX5_readPlain_28 : decode cX5_readPlain 28 = .ok (.ireturn, 1) := bd172 (btAt dk15flev_cX5_readPlain_0_a 16 rfl)
noncomputable def dk15flev_cX5_readBoth_0 : List (Nat × List Nat) := [(0, [42]), (1, [27]), (2, [182, 0, 106]), (5, [154, 0, 5]), (8, [3]), (9, [172]), (10, [3]), (11, [61]), (12, [28]), (13, [42]), (14, [180, 0, 31]), (17, [162, 0, 34]), (20, [42]), (21, [16, 38]), (23, [182, 0, 51]), (26, [153, 0, 25]), (29, [42]), (30, [27]), (31, [182, 0, 106]), (34, [154, 0, 5]), (37, [3]), (38, [172]), (39, [42]), (40, [16, 254]), (42, [182, 0, 102]), (45, [132, 2, 1]), (48, [167, 255, 220]), (51, [4]), (52, [172])]
set_option maxRecDepth 100000 in
theorem dk15flev_cX5_readBoth_0_a : btA cX5_readBoth dk15flev_cX5_readBoth_0 = true := by decide +kernel
theorem dX5_readBoth_0 : decode cX5_readBoth 0 = .ok (.aload_n 0, 1) := bd42 (btAt dk15flev_cX5_readBoth_0_a 0 rfl)
theorem dX5_readBoth_1 : decode cX5_readBoth 1 = .ok (.iload_n 1, 1) := bd27 (btAt dk15flev_cX5_readBoth_0_a 1 rfl)
theorem dX5_readBoth_2 : decode cX5_readBoth 2 = .ok (.invokevirtual 106, 3) := bd182 (a := 0) (b := 106) (btAt dk15flev_cX5_readBoth_0_a 2 rfl)
theorem dX5_readBoth_5 : decode cX5_readBoth 5 = .ok (.ifCond .ne 5, 3) := bd154 (a := 0) (b := 5) (btAt dk15flev_cX5_readBoth_0_a 3 rfl)
theorem dX5_readBoth_8 : decode cX5_readBoth 8 = .ok (.iconst 0, 1) := bd3 (btAt dk15flev_cX5_readBoth_0_a 4 rfl)
theorem dX5_readBoth_9 : decode cX5_readBoth 9 = .ok (.ireturn, 1) := bd172 (btAt dk15flev_cX5_readBoth_0_a 5 rfl)
theorem dX5_readBoth_10 : decode cX5_readBoth 10 = .ok (.iconst 0, 1) := bd3 (btAt dk15flev_cX5_readBoth_0_a 6 rfl)
theorem dX5_readBoth_11 : decode cX5_readBoth 11 = .ok (.istore_n 2, 1) := bd61 (btAt dk15flev_cX5_readBoth_0_a 7 rfl)
theorem dX5_readBoth_12 : decode cX5_readBoth 12 = .ok (.iload_n 2, 1) := bd28 (btAt dk15flev_cX5_readBoth_0_a 8 rfl)
theorem dX5_readBoth_13 : decode cX5_readBoth 13 = .ok (.aload_n 0, 1) := bd42 (btAt dk15flev_cX5_readBoth_0_a 9 rfl)
theorem dX5_readBoth_14 : decode cX5_readBoth 14 = .ok (.getfield 31, 3) := bd180 (a := 0) (b := 31) (btAt dk15flev_cX5_readBoth_0_a 10 rfl)
theorem dX5_readBoth_17 : decode cX5_readBoth 17 = .ok (.if_icmp .ge 34, 3) := bd162 (a := 0) (b := 34) (btAt dk15flev_cX5_readBoth_0_a 11 rfl)
theorem dX5_readBoth_20 : decode cX5_readBoth 20 = .ok (.aload_n 0, 1) := bd42 (btAt dk15flev_cX5_readBoth_0_a 12 rfl)
theorem dX5_readBoth_21 : decode cX5_readBoth 21 = .ok (.bipush 38, 2) := bd16 (a := 38) (btAt dk15flev_cX5_readBoth_0_a 13 rfl)
theorem dX5_readBoth_23 : decode cX5_readBoth 23 = .ok (.invokevirtual 51, 3) := bd182 (a := 0) (b := 51) (btAt dk15flev_cX5_readBoth_0_a 14 rfl)
theorem dX5_readBoth_26 : decode cX5_readBoth 26 = .ok (.ifCond .eq 25, 3) := bd153 (a := 0) (b := 25) (btAt dk15flev_cX5_readBoth_0_a 15 rfl)
theorem dX5_readBoth_29 : decode cX5_readBoth 29 = .ok (.aload_n 0, 1) := bd42 (btAt dk15flev_cX5_readBoth_0_a 16 rfl)
theorem dX5_readBoth_30 : decode cX5_readBoth 30 = .ok (.iload_n 1, 1) := bd27 (btAt dk15flev_cX5_readBoth_0_a 17 rfl)
theorem dX5_readBoth_31 : decode cX5_readBoth 31 = .ok (.invokevirtual 106, 3) := bd182 (a := 0) (b := 106) (btAt dk15flev_cX5_readBoth_0_a 18 rfl)
theorem dX5_readBoth_34 : decode cX5_readBoth 34 = .ok (.ifCond .ne 5, 3) := bd154 (a := 0) (b := 5) (btAt dk15flev_cX5_readBoth_0_a 19 rfl)
theorem dX5_readBoth_37 : decode cX5_readBoth 37 = .ok (.iconst 0, 1) := bd3 (btAt dk15flev_cX5_readBoth_0_a 20 rfl)
theorem dX5_readBoth_38 : decode cX5_readBoth 38 = .ok (.ireturn, 1) := bd172 (btAt dk15flev_cX5_readBoth_0_a 21 rfl)
theorem dX5_readBoth_39 : decode cX5_readBoth 39 = .ok (.aload_n 0, 1) := bd42 (btAt dk15flev_cX5_readBoth_0_a 22 rfl)
theorem dX5_readBoth_40 : decode cX5_readBoth 40 = .ok (.bipush (-2), 2) := bd16 (a := 254) (btAt dk15flev_cX5_readBoth_0_a 23 rfl)
theorem dX5_readBoth_42 : decode cX5_readBoth 42 = .ok (.invokevirtual 102, 3) := bd182 (a := 0) (b := 102) (btAt dk15flev_cX5_readBoth_0_a 24 rfl)
theorem dX5_readBoth_45 : decode cX5_readBoth 45 = .ok (.iinc 2 1, 3) := bd132 (a := 2) (b := 1) (btAt dk15flev_cX5_readBoth_0_a 25 rfl)
theorem dX5_readBoth_48 : decode cX5_readBoth 48 = .ok (.goto (-36), 3) := bd167 (a := 255) (b := 220) (btAt dk15flev_cX5_readBoth_0_a 26 rfl)
theorem dX5_readBoth_51 : decode cX5_readBoth 51 = .ok (.iconst 1, 1) := bd4 (btAt dk15flev_cX5_readBoth_0_a 27 rfl)
theorem dX5_readBoth_52 : decode cX5_readBoth 52 = .ok (.ireturn, 1) := bd172 (btAt dk15flev_cX5_readBoth_0_a 28 rfl)
noncomputable def dk15flev_cX5_readEither_0 : List (Nat × List Nat) := [(0, [42]), (1, [27]), (2, [182, 0, 99]), (5, [154, 0, 5]), (8, [3]), (9, [172]), (10, [3]), (11, [61]), (12, [28]), (13, [42]), (14, [180, 0, 31]), (17, [162, 0, 34]), (20, [42]), (21, [16, 124]), (23, [182, 0, 51]), (26, [153, 0, 25]), (29, [42]), (30, [27]), (31, [182, 0, 99]), (34, [154, 0, 5]), (37, [3]), (38, [172]), (39, [42]), (40, [16, 253]), (42, [182, 0, 102]), (45, [132, 2, 1]), (48, [167, 255, 220]), (51, [4]), (52, [172])]
set_option maxRecDepth 100000 in
theorem dk15flev_cX5_readEither_0_a : btA cX5_readEither dk15flev_cX5_readEither_0 = true := by decide +kernel
theorem dX5_readEither_0 : decode cX5_readEither 0 = .ok (.aload_n 0, 1) := bd42 (btAt dk15flev_cX5_readEither_0_a 0 rfl)
theorem dX5_readEither_1 : decode cX5_readEither 1 = .ok (.iload_n 1, 1) := bd27 (btAt dk15flev_cX5_readEither_0_a 1 rfl)
theorem dX5_readEither_2 : decode cX5_readEither 2 = .ok (.invokevirtual 99, 3) := bd182 (a := 0) (b := 99) (btAt dk15flev_cX5_readEither_0_a 2 rfl)
theorem dX5_readEither_5 : decode cX5_readEither 5 = .ok (.ifCond .ne 5, 3) := bd154 (a := 0) (b := 5) (btAt dk15flev_cX5_readEither_0_a 3 rfl)
theorem dX5_readEither_8 : decode cX5_readEither 8 = .ok (.iconst 0, 1) := bd3 (btAt dk15flev_cX5_readEither_0_a 4 rfl)
theorem dX5_readEither_9 : decode cX5_readEither 9 = .ok (.ireturn, 1) := bd172 (btAt dk15flev_cX5_readEither_0_a 5 rfl)
theorem dX5_readEither_10 : decode cX5_readEither 10 = .ok (.iconst 0, 1) := bd3 (btAt dk15flev_cX5_readEither_0_a 6 rfl)
theorem dX5_readEither_11 : decode cX5_readEither 11 = .ok (.istore_n 2, 1) := bd61 (btAt dk15flev_cX5_readEither_0_a 7 rfl)
theorem dX5_readEither_12 : decode cX5_readEither 12 = .ok (.iload_n 2, 1) := bd28 (btAt dk15flev_cX5_readEither_0_a 8 rfl)
theorem dX5_readEither_13 : decode cX5_readEither 13 = .ok (.aload_n 0, 1) := bd42 (btAt dk15flev_cX5_readEither_0_a 9 rfl)
theorem dX5_readEither_14 : decode cX5_readEither 14 = .ok (.getfield 31, 3) := bd180 (a := 0) (b := 31) (btAt dk15flev_cX5_readEither_0_a 10 rfl)
theorem dX5_readEither_17 : decode cX5_readEither 17 = .ok (.if_icmp .ge 34, 3) := bd162 (a := 0) (b := 34) (btAt dk15flev_cX5_readEither_0_a 11 rfl)
theorem dX5_readEither_20 : decode cX5_readEither 20 = .ok (.aload_n 0, 1) := bd42 (btAt dk15flev_cX5_readEither_0_a 12 rfl)
theorem dX5_readEither_21 : decode cX5_readEither 21 = .ok (.bipush 124, 2) := bd16 (a := 124) (btAt dk15flev_cX5_readEither_0_a 13 rfl)
theorem dX5_readEither_23 : decode cX5_readEither 23 = .ok (.invokevirtual 51, 3) := bd182 (a := 0) (b := 51) (btAt dk15flev_cX5_readEither_0_a 14 rfl)
theorem dX5_readEither_26 : decode cX5_readEither 26 = .ok (.ifCond .eq 25, 3) := bd153 (a := 0) (b := 25) (btAt dk15flev_cX5_readEither_0_a 15 rfl)
theorem dX5_readEither_29 : decode cX5_readEither 29 = .ok (.aload_n 0, 1) := bd42 (btAt dk15flev_cX5_readEither_0_a 16 rfl)
theorem dX5_readEither_30 : decode cX5_readEither 30 = .ok (.iload_n 1, 1) := bd27 (btAt dk15flev_cX5_readEither_0_a 17 rfl)
theorem dX5_readEither_31 : decode cX5_readEither 31 = .ok (.invokevirtual 99, 3) := bd182 (a := 0) (b := 99) (btAt dk15flev_cX5_readEither_0_a 18 rfl)
theorem dX5_readEither_34 : decode cX5_readEither 34 = .ok (.ifCond .ne 5, 3) := bd154 (a := 0) (b := 5) (btAt dk15flev_cX5_readEither_0_a 19 rfl)
theorem dX5_readEither_37 : decode cX5_readEither 37 = .ok (.iconst 0, 1) := bd3 (btAt dk15flev_cX5_readEither_0_a 20 rfl)
theorem dX5_readEither_38 : decode cX5_readEither 38 = .ok (.ireturn, 1) := bd172 (btAt dk15flev_cX5_readEither_0_a 21 rfl)
theorem dX5_readEither_39 : decode cX5_readEither 39 = .ok (.aload_n 0, 1) := bd42 (btAt dk15flev_cX5_readEither_0_a 22 rfl)
theorem dX5_readEither_40 : decode cX5_readEither 40 = .ok (.bipush (-3), 2) := bd16 (a := 253) (btAt dk15flev_cX5_readEither_0_a 23 rfl)
theorem dX5_readEither_42 : decode cX5_readEither 42 = .ok (.invokevirtual 102, 3) := bd182 (a := 0) (b := 102) (btAt dk15flev_cX5_readEither_0_a 24 rfl)
theorem dX5_readEither_45 : decode cX5_readEither 45 = .ok (.iinc 2 1, 3) := bd132 (a := 2) (b := 1) (btAt dk15flev_cX5_readEither_0_a 25 rfl)
theorem dX5_readEither_48 : decode cX5_readEither 48 = .ok (.goto (-36), 3) := bd167 (a := 255) (b := 220) (btAt dk15flev_cX5_readEither_0_a 26 rfl)
theorem dX5_readEither_51 : decode cX5_readEither 51 = .ok (.iconst 1, 1) := bd4 (btAt dk15flev_cX5_readEither_0_a 27 rfl)
theorem dX5_readEither_52 : decode cX5_readEither 52 = .ok (.ireturn, 1) := bd172 (btAt dk15flev_cX5_readEither_0_a 28 rfl)
set_option maxHeartbeats 4000000 in
set_option maxRecDepth 100000 in
theorem c_xPlain5 (l : Launch) (dC : Nat → ClassId) (dI : Nat → Nat → Nat) (sK sV : Nat → Nat) (bl : Nat) (aTp : Nat) (eW : Nat) (eA : Nat) (eE : Nat) (eC : Nat) (ecl : Nat) (ecd : Nat) (esg : Int32) (cTp : ClassId) (ceC : ClassId) (fTp : Nat → Int32) (feC : Nat → Int32) (ez : Nat) (ep : Nat) (em : Nat) (ss : Nat → Nat) (kt : List Nat) (sz : Nat) (hez : ez ≤ 100) (hep : ep ≤ ez) (hem : em ≤ 99) (hXT : XT feC ecd kt ep) (zeC : ∀ k0, k0 < 100 → okC (feC k0)) (gX : TX fTp ez ss) : Met l yX5_readPlain wsX5_readPlain ({ frames := 5, cells := 0, slots := 0, locals := 113 } : Room) (va_Pc [.ref bl, .int 5] (fun U => U.heap.size = sz ∧ va_P (dC, dI) vwCl [(zo7iirrrririii bl esg (nI ecl) eW eA eE eC (nI ecd) aTp (nI ez) (nI ep) (nI em)), (zaI aTp cTp 100 fTp), (zaI eC ceC 100 feC)] U.heap ∧ va_K (dC, dI) vwCl [(cTp, .int), (ceC, .int)] U ∧ va_D (fun _ => True) [(zo7iirrrririii bl esg (nI ecl) eW eA eE eC (nI ecd) aTp (nI ez) (nI ep) (nI em)), (zaI aTp cTp 100 fTp), (zaI eC ceC 100 feC)] ∧ Gs sK sV (va_A [(zo7iirrrririii bl esg (nI ecl) eW eA eE eC (nI ecd) aTp (nI ez) (nI ep) (nI em)), (zaI aTp cTp 100 fTp), (zaI eC ceC 100 feC)] sz) U)) (va_Qi (fun (r : Int32) (u : (Nat) × (Nat) × (Nat) × (Nat → Int32)) => match u with | (ecd9, ep9, em9, feC9) => (r = 1 ∧ ∃ L0 : List Nat, pFac ss 0 ep = (some L0, ep9) ∧ ep + 3 ≤ ep9 ∧ ep9 ≤ ez ∧ em9 ≤ 99 ∧ L0.length + ep ≤ ep9 ∧ XT feC9 ecd9 (kt ++ L0) ep9 ∧ ∀ k0, k0 < 100 → okC (feC9 k0)) ∨ (r = 0 ∧ pFac ss 0 ep = (none, ep9) ∧ ep9 ≤ ez + 2 ∧ em9 ≤ 99 ∧ ecd9 ≤ 100 ∧ ∀ k0, k0 < 100 → okC (feC9 k0))) (fun (u : (Nat) × (Nat) × (Nat) × (Nat → Int32)) (t : State) => match u with | (ecd9, ep9, em9, feC9) => va_P (dC, dI) vwCl [(zo7iirrrririii bl esg (nI ecl) eW eA eE eC (nI ecd9) aTp (nI ez) (nI ep9) (nI em9)), (zaI aTp cTp 100 fTp), (zaI eC ceC 100 feC9)] t.heap ∧ va_K (dC, dI) vwCl [(cTp, .int), (ceC, .int)] t ∧ va_D (va_A [(zo7iirrrririii bl esg (nI ecl) eW eA eE eC (nI ecd) aTp (nI ez) (nI ep) (nI em)), (zaI aTp cTp 100 fTp), (zaI eC ceC 100 feC)] sz) [(zo7iirrrririii bl esg (nI ecl) eW eA eE eC (nI ecd9) aTp (nI ez) (nI ep9) (nI em9)), (zaI aTp cTp 100 fTp), (zaI eC ceC 100 feC9)]) (va_A [(zo7iirrrririii bl esg (nI ecl) eW eA eE eC (nI ecd) aTp (nI ez) (nI ep) (nI em)), (zaI aTp cTp 100 fTp), (zaI eC ceC 100 feC)] sz)) 0 0 (va_A [(zo7iirrrririii bl esg (nI ecl) eW eA eE eC (nI ecd) aTp (nI ez) (nI ep) (nI em)), (zaI aTp cTp 100 fTp), (zaI eC ceC 100 feC)] sz) := by
  refine met_ofQ (cc := cX5_readPlain) (maxL := 3) (ret := (some .boolean)) (by decide) rfl ?_
  intro p e s m args below meth c s₁ Q B hml hv hQ
  obtain ⟨rfl, hsz, hP, hK, hD0, hE⟩ := hv
  have hx := B.exec
  have hb := B.bytes
  have hr := B.returns
  have hts := atoms_spec (ws := wsX5_readPlain) B.pre
  have hown : s.vm.findClass RX5 = some m.cls := findClass_of_methodNamed B.named
  have hlocks := B.notSynchronized
  subst hsz
  have hD := hD0.self (sz := s.heap.size)
  generalize hAe : va_A [(zo7iirrrririii bl esg (nI ecl) eW eA eE eC (nI ecd) aTp (nI ez) (nI ep) (nI em)), (zaI aTp cTp 100 fTp), (zaI eC ceC 100 feC)] s.heap.size = A at hD hQ hE ⊢
  have hA : ∀ q : Nat, s.heap.size ≤ q → A q := fun q h => by rw [← hAe]; exact Or.inr h
  have hS : va_S A s.heap s.heap [] := va_S.rf
  have hl := lv_entry [.ref bl, .int 5] (n := 3) (Nat.le_of_ble_eq_true rfl)
  rw [lg_entry_eq]
  generalize (lg_sl [.ref bl, .int 5] ++ List.replicate (3 - (lg_sl [.ref bl, .int 5]).length) Slot.unset).toArray = ls at hl ⊢
  generalize hag : ([.ref bl, .int 5] : List Value).toArray = args at hts hQ ⊢
  have hl : lv_has ls 3 [(0, .ref bl), (1, .int 5)] := hl
  obtain ⟨H, hH⟩ : ∃ H : Heap, H = s.heap := ⟨_, rfl⟩
  rw [← hH] at hP
  rw [← hH]
  have hS : va_S A s.heap H [] := by rw [hH]; exact hS
  obtain ⟨locs, hlo⟩ : ∃ L : List Loc, L = [] := ⟨_, rfl⟩
  rw [← hlo] at hS
  rw [← hlo]
  clear hH hlo
  refine lv_aload_n hx hb dX5_readPlain_0 rfl (lv_at hl 0 rfl) ?_
  have hPc := hP.sub (ws' := [(zo7iirrrririii bl esg (nI ecl) eW eA eE eC (nI ecd) aTp (nI ez) (nI ep) (nI em)), (zaI aTp cTp 100 fTp)]) [0, 1] rfl
  have hKc := hK.sub (tys' := [(cTp, .int)]) [0] rfl
  refine vp_callSi (va_runV (As := []) (rest := []) ⟨hx, hb, hml, hown, hts⟩ (c_xSign l dC dI bl aTp eW eA eE eC ecl ecd esg cTp fTp ez ep em ss (hez) (by omega) (gX)) (cwV 0 hts gX5_readPlain_X5_sign rfl rfl rfl hd_yX5_sign ⟨Nat.le_of_ble_eq_true rfl, Nat.le_of_ble_eq_true rfl⟩) ⟨fun a U g mk q => by obtain ⟨q0, qP, qK⟩ := q; exact ⟨q0, mvP g mk a qP, mvK g mk a qK⟩, va_recv hK hP (ci := 7) (q := (RX5, TX5, 11)) (q0 := 0) rfl rfl, fun U hU hW => ⟨rfl, by rw [hU]; exact hPc, va_K.moved hW.alike hKc⟩⟩ rfl rfl hl.1 rfl (lv_room (Nat.le_of_ble_eq_true rfl)) dX5_readPlain_1 ⟨Nat.le_of_ble_eq_true rfl, Nat.le_of_ble_eq_true rfl⟩).run (fun r_1 hw_2 => ?_)
  obtain rfl := hw_2
  have hs8 := gX.2.2 (ep)
  refine lv_istore_n (lv' := [(2, .int (nI (ss ep))), (0, .ref bl), (1, .int 5)]) hx hb dX5_readPlain_4 rfl hl (by decide) rfl (fun ls hl => ?_)
  refine lv_iload_n hx hb dX5_readPlain_5 rfl (lv_at hl 0 rfl) ?_
  refine lv_bipush (v := 33) hx hb dX5_readPlain_6 (by decide) ?_
  refine lv_icmp_eq (tgt := 22) hx hb dX5_readPlain_8 (by decide) (fun c_3 => ?_) (fun c_3 => ?_)
  · skip
    have c_3 : (ss ep) = 33 := (nI_eq (a := (ss ep)) (b := 33) (by omega) (by omega)).mp c_3
    have hc : ss ep = 33 := c_3
    have hlt : ep < ez := Nat.lt_of_not_le (fun z => by have := gX.2.1 ep z; omega)
    refine lv_iload_n hx hb dX5_readPlain_22 rfl (lv_at hl 2 rfl) ?_
    refine lv_iconst (v := 5) hx hb dX5_readPlain_23 (by decide) ?_
    refine lv_icmp_lt (tgt := 29) hx hb dX5_readPlain_24 (by decide) (fun c_4 => absurd c_4 (by decide)) (fun _ => ?_)
    refine lv_iconst (v := 0) hx hb dX5_readPlain_27 (by decide) ?_
    rw [hQ]
    have hP9 := hP.sub (ws' := [(zo7iirrrririii bl esg (nI ecl) eW eA eE eC (nI ecd) aTp (nI ez) (nI ep) (nI em)), (zaI aTp cTp 100 fTp), (zaI eC ceC 100 feC)]) [0, 1, 2] rfl
    have hD9 := hD.sub (ws' := [(zo7iirrrririii bl esg (nI ecl) eW eA eE eC (nI ecd) aTp (nI ez) (nI ep) (nI em)), (zaI aTp cTp 100 fTp), (zaI eC ceC 100 feC)]) [0, 1, 2] (by decide) rfl
    have hK9 := hK.sub (tys' := [(cTp, .int), (ceC, .int)]) [0, 1] rfl
    exact W.zret (v := 0) hx hb hr rfl (fun tQ htQ hWQ => ⟨⟨0, (ecd, ep, em, feC), rfl, Or.inr ⟨rfl, pf_0 (Or.inl hc), by omega, by omega, by first | omega | (have := (hXT).2.1; omega), zeC⟩, by rw [htQ]; exact hP9, va_K.moved hWQ.alike hK9, hD9⟩, hS.F htQ⟩) hS.2.2 dX5_readPlain_28
  · skip
    have c_3 : ¬ (ss ep) = 33 := fun q => c_3 ((nI_eq (a := (ss ep)) (b := 33) (by omega) (by omega)).mpr q)
    have hn33 : ¬ ss ep = 33 := c_3
    refine lv_iload_n hx hb dX5_readPlain_11 rfl (lv_at hl 0 rfl) ?_
    refine lv_bipush (v := 40) hx hb dX5_readPlain_12 (by decide) ?_
    refine lv_icmp_eq (tgt := 22) hx hb dX5_readPlain_14 (by decide) (fun c_5 => ?_) (fun c_5 => ?_)
    · skip
      have c_5 : (ss ep) = 40 := (nI_eq (a := (ss ep)) (b := 40) (by omega) (by omega)).mp c_5
      have hc : ss ep = 40 := c_5
      have hlt : ep < ez := Nat.lt_of_not_le (fun z => by have := gX.2.1 ep z; omega)
      refine lv_iload_n hx hb dX5_readPlain_22 rfl (lv_at hl 2 rfl) ?_
      refine lv_iconst (v := 5) hx hb dX5_readPlain_23 (by decide) ?_
      refine lv_icmp_lt (tgt := 29) hx hb dX5_readPlain_24 (by decide) (fun c_6 => absurd c_6 (by decide)) (fun _ => ?_)
      refine lv_iconst (v := 0) hx hb dX5_readPlain_27 (by decide) ?_
      rw [hQ]
      have hP9 := hP.sub (ws' := [(zo7iirrrririii bl esg (nI ecl) eW eA eE eC (nI ecd) aTp (nI ez) (nI ep) (nI em)), (zaI aTp cTp 100 fTp), (zaI eC ceC 100 feC)]) [0, 1, 2] rfl
      have hD9 := hD.sub (ws' := [(zo7iirrrririii bl esg (nI ecl) eW eA eE eC (nI ecd) aTp (nI ez) (nI ep) (nI em)), (zaI aTp cTp 100 fTp), (zaI eC ceC 100 feC)]) [0, 1, 2] (by decide) rfl
      have hK9 := hK.sub (tys' := [(cTp, .int), (ceC, .int)]) [0, 1] rfl
      exact W.zret (v := 0) hx hb hr rfl (fun tQ htQ hWQ => ⟨⟨0, (ecd, ep, em, feC), rfl, Or.inr ⟨rfl, pf_0 (Or.inr hc), by omega, by omega, by first | omega | (have := (hXT).2.1; omega), zeC⟩, by rw [htQ]; exact hP9, va_K.moved hWQ.alike hK9, hD9⟩, hS.F htQ⟩) hS.2.2 dX5_readPlain_28
    · skip
      have c_5 : ¬ (ss ep) = 40 := fun q => c_5 ((nI_eq (a := (ss ep)) (b := 40) (by omega) (by omega)).mpr q)
      have hn40 : ¬ ss ep = 40 := c_5
      refine lv_aload_n hx hb dX5_readPlain_17 rfl (lv_at hl 1 rfl) ?_
      have hPc := hP.sub (ws' := [(zo7iirrrririii bl esg (nI ecl) eW eA eE eC (nI ecd) aTp (nI ez) (nI ep) (nI em)), (zaI aTp cTp 100 fTp), (zaI eC ceC 100 feC)]) [0, 1, 2] rfl
      have hDc := hD.sub (ws' := [(zo7iirrrririii bl esg (nI ecl) eW eA eE eC (nI ecd) aTp (nI ez) (nI ep) (nI em)), (zaI aTp cTp 100 fTp), (zaI eC ceC 100 feC)]) [0, 1, 2] (by decide) rfl
      have hKc := hK.sub (tys' := [(cTp, .int), (ceC, .int)]) [0, 1] rfl
      have hFc := va_free (wc := [(zo7iirrrririii bl esg (nI ecl) eW eA eE eC (nI ecd) aTp (nI ez) (nI ep) (nI em)), (zaI aTp cTp 100 fTp), (zaI eC ceC 100 feC)]) hD hS hA [0, 1, 2] rfl
      refine va_calli (va_runV (As := []) (rest := []) ⟨hx, hb, hml, hown, hts⟩ (c_readTest l dC dI sK sV bl aTp eW eA eE eC ecl ecd esg cTp ceC fTp feC ez ep em ss kt H.size (hez) (by omega) (by omega) ((hXT).mono (by omega)) (zeC) (gX)) (cwV 0 hts gX5_readPlain_X5_readTest rfl rfl rfl hd_yX5_readTest ⟨Nat.le_of_ble_eq_true rfl, Nat.le_of_ble_eq_true rfl⟩) ⟨fun a U g mk q => by obtain ⟨q0, q1, qP, qK, qD, qhE⟩ := q; exact ⟨q0, mvz g mk a q1, mvP g mk a qP, mvK g mk a qK, qD, qhE.mv g mk a⟩, va_recv hK hP (ci := 7) (q := (RX5, TX5, 11)) (q0 := 0) rfl rfl, fun U hU hW => ⟨rfl, by rw [hU], by rw [hU]; exact hPc, va_K.moved hW.alike hKc, hDc.weaken (fun _ _ _ _ => trivial), hE.call hS hU hW (fun q h => hFc q h)⟩⟩ rfl rfl hl.1 rfl (lv_room (Nat.le_of_ble_eq_true rfl)) dX5_readPlain_18 ⟨Nat.le_of_ble_eq_true rfl, Nat.le_of_ble_eq_true rfl⟩) hS (fun q _ h => hFc q h) hFc (fun r_7 u tC H1 locs htC hvm hw_8 hB hz1 hk1 hS => ?_)
      obtain ⟨ecd9_9, ep9_10, em9_11, feC9_12⟩ := u
      try dsimp only at hw_8 hB
      obtain ⟨hP1, hK1, hD1⟩ := hB
      rw [htC] at hP1
      have hK1 := va_K.moved hvm.symm hK1
      obtain ⟨hP, hD⟩ := va_join (wr := []) (w1 := [(zo7iirrrririii bl esg (nI ecl) eW eA eE eC (nI ecd9_9) aTp (nI ez) (nI ep9_10) (nI em9_11)), (zaI aTp cTp 100 fTp), (zaI eC ceC 100 feC9_12)]) hP hD [0, 1, 2] [] rfl rfl (by decide) (by decide) hk1 hFc hP1 hD1
      have hK := (hK.sub (tys' := []) [] rfl).app hK1
      generalize H1 = H at hP hS ⊢
      have hP : va_P (dC, dI) vwCl [(zo7iirrrririii bl esg (nI ecl) eW eA eE eC (nI ecd9_9) aTp (nI ez) (nI ep9_10) (nI em9_11)), (zaI aTp cTp 100 fTp), (zaI eC ceC 100 feC9_12)] H := hP
      have hD : va_D A [(zo7iirrrririii bl esg (nI ecl) eW eA eE eC (nI ecd9_9) aTp (nI ez) (nI ep9_10) (nI em9_11)), (zaI aTp cTp 100 fTp), (zaI eC ceC 100 feC9_12)] := hD
      have hK : va_K (dC, dI) vwCl [(cTp, .int), (ceC, .int)] s := hK
      rw [hQ]
      have hP9 := hP.sub (ws' := [(zo7iirrrririii bl esg (nI ecl) eW eA eE eC (nI ecd9_9) aTp (nI ez) (nI ep9_10) (nI em9_11)), (zaI aTp cTp 100 fTp), (zaI eC ceC 100 feC9_12)]) [0, 1, 2] rfl
      have hD9 := hD.sub (ws' := [(zo7iirrrririii bl esg (nI ecl) eW eA eE eC (nI ecd9_9) aTp (nI ez) (nI ep9_10) (nI em9_11)), (zaI aTp cTp 100 fTp), (zaI eC ceC 100 feC9_12)]) [0, 1, 2] (by decide) rfl
      have hK9 := hK.sub (tys' := [(cTp, .int), (ceC, .int)]) [0, 1] rfl
      exact W.zret (v := r_7) hx hb hr (by first | rfl | (rcases hw_8 with ⟨e9, _⟩ | ⟨e9, _⟩ <;> rw [e9] <;> rfl)) (fun tQ htQ hWQ => ⟨⟨r_7, (ecd9_9, ep9_10, em9_11, feC9_12), rfl, by rw [show pFac ss 0 ep = pTest ss ep from pf_t hn33 hn40]; exact hw_8, by rw [htQ]; exact hP9, va_K.moved hWQ.alike hK9, hD9⟩, hS.F htQ⟩) hS.2.2 dX5_readPlain_21

theorem kc_xBoth5_0 : ∀ w ∈ wsX50, w ∈ wsX5_readBoth := fun w h => List.mem_cons_of_mem _ (gin_wsX50 w h)
theorem kc_xBoth5_1 : (.fieldLink RX5 31 "MistHeaps$Hill" "size" "I" : Cond) ∈ wsX5_readBoth := kc_of 123 rfl rfl rfl
set_option maxHeartbeats 4000000 in
set_option maxRecDepth 100000 in
theorem c_xBoth5 (l : Launch) (dC : Nat → ClassId) (dI : Nat → Nat → Nat) (sK sV : Nat → Nat) (bl : Nat) (aTp : Nat) (eW : Nat) (eA : Nat) (eE : Nat) (eC : Nat) (ecl : Nat) (ecd : Nat) (esg : Int32) (cTp : ClassId) (ceC : ClassId) (fTp : Nat → Int32) (feC : Nat → Int32) (ez : Nat) (ep : Nat) (em : Nat) (ss : Nat → Nat) (kt : List Nat) (sz : Nat) (hez : ez ≤ 100) (hep : ep ≤ ez) (hem : em ≤ 99) (hXT : XT feC ecd kt ep) (zeC : ∀ k0, k0 < 100 → okC (feC k0)) (gX : TX fTp ez ss) : Met l yX5_readBoth wsX5_readBoth ({ frames := 6, cells := 0, slots := 0, locals := 135 } : Room) (va_Pc [.ref bl, .int 5] (fun U => U.heap.size = sz ∧ va_P (dC, dI) vwCl [(zo7iirrrririii bl esg (nI ecl) eW eA eE eC (nI ecd) aTp (nI ez) (nI ep) (nI em)), (zaI aTp cTp 100 fTp), (zaI eC ceC 100 feC)] U.heap ∧ va_K (dC, dI) vwCl [(cTp, .int), (ceC, .int)] U ∧ va_D (fun _ => True) [(zo7iirrrririii bl esg (nI ecl) eW eA eE eC (nI ecd) aTp (nI ez) (nI ep) (nI em)), (zaI aTp cTp 100 fTp), (zaI eC ceC 100 feC)] ∧ Gs sK sV (va_A [(zo7iirrrririii bl esg (nI ecl) eW eA eE eC (nI ecd) aTp (nI ez) (nI ep) (nI em)), (zaI aTp cTp 100 fTp), (zaI eC ceC 100 feC)] sz) U)) (va_Qi (fun (r : Int32) (u : (Nat) × (Nat) × (Nat) × (Nat → Int32)) => match u with | (ecd9, ep9, em9, feC9) => (r = 1 ∧ ∃ L0 : List Nat, pEv ss (pFac ss 0) ep = (some L0, ep9) ∧ ep + 3 ≤ ep9 ∧ ep9 ≤ ez ∧ em9 ≤ 99 ∧ L0.length + ep ≤ ep9 ∧ XT feC9 ecd9 (kt ++ L0) ep9 ∧ ∀ k0, k0 < 100 → okC (feC9 k0)) ∨ (r = 0 ∧ pEv ss (pFac ss 0) ep = (none, ep9) ∧ ep9 ≤ ez + 2 ∧ em9 ≤ 99 ∧ ecd9 ≤ 100 ∧ ∀ k0, k0 < 100 → okC (feC9 k0))) (fun (u : (Nat) × (Nat) × (Nat) × (Nat → Int32)) (t : State) => match u with | (ecd9, ep9, em9, feC9) => va_P (dC, dI) vwCl [(zo7iirrrririii bl esg (nI ecl) eW eA eE eC (nI ecd9) aTp (nI ez) (nI ep9) (nI em9)), (zaI aTp cTp 100 fTp), (zaI eC ceC 100 feC9)] t.heap ∧ va_K (dC, dI) vwCl [(cTp, .int), (ceC, .int)] t ∧ va_D (va_A [(zo7iirrrririii bl esg (nI ecl) eW eA eE eC (nI ecd) aTp (nI ez) (nI ep) (nI em)), (zaI aTp cTp 100 fTp), (zaI eC ceC 100 feC)] sz) [(zo7iirrrririii bl esg (nI ecl) eW eA eE eC (nI ecd9) aTp (nI ez) (nI ep9) (nI em9)), (zaI aTp cTp 100 fTp), (zaI eC ceC 100 feC9)]) (va_A [(zo7iirrrririii bl esg (nI ecl) eW eA eE eC (nI ecd) aTp (nI ez) (nI ep) (nI em)), (zaI aTp cTp 100 fTp), (zaI eC ceC 100 feC)] sz)) 0 0 (va_A [(zo7iirrrririii bl esg (nI ecl) eW eA eE eC (nI ecd) aTp (nI ez) (nI ep) (nI em)), (zaI aTp cTp 100 fTp), (zaI eC ceC 100 feC)] sz) := by
  refine met_ofQ (cc := cX5_readBoth) (maxL := 3) (ret := (some .boolean)) (by decide) rfl ?_
  intro p e s m args below meth c s₁ Q B hml hv hQ
  obtain ⟨rfl, hsz, hP, hK, hD0, hE⟩ := hv
  have hx := B.exec
  have hb := B.bytes
  have hr := B.returns
  have hts := atoms_spec (ws := wsX5_readBoth) B.pre
  have hown : s.vm.findClass RX5 = some m.cls := findClass_of_methodNamed B.named
  have hlocks := B.notSynchronized
  subst hsz
  have hD := hD0.self (sz := s.heap.size)
  generalize hAe : va_A [(zo7iirrrririii bl esg (nI ecl) eW eA eE eC (nI ecd) aTp (nI ez) (nI ep) (nI em)), (zaI aTp cTp 100 fTp), (zaI eC ceC 100 feC)] s.heap.size = A at hD hQ hE ⊢
  have hA : ∀ q : Nat, s.heap.size ≤ q → A q := fun q h => by rw [← hAe]; exact Or.inr h
  have hS : va_S A s.heap s.heap [] := va_S.rf
  have hl := lv_entry [.ref bl, .int 5] (n := 3) (Nat.le_of_ble_eq_true rfl)
  rw [lg_entry_eq]
  generalize (lg_sl [.ref bl, .int 5] ++ List.replicate (3 - (lg_sl [.ref bl, .int 5]).length) Slot.unset).toArray = ls at hl ⊢
  generalize hag : ([.ref bl, .int 5] : List Value).toArray = args at hts hQ ⊢
  have hl : lv_has ls 3 [(0, .ref bl), (1, .int 5)] := hl
  obtain ⟨H, hH⟩ : ∃ H : Heap, H = s.heap := ⟨_, rfl⟩
  rw [← hH] at hP
  rw [← hH]
  have hS : va_S A s.heap H [] := by rw [hH]; exact hS
  obtain ⟨locs, hlo⟩ : ∃ L : List Loc, L = [] := ⟨_, rfl⟩
  rw [← hlo] at hS
  rw [← hlo]
  clear hH hlo
  refine lv_aload_n hx hb dX5_readBoth_0 rfl (lv_at hl 0 rfl) ?_
  refine lv_iload_n hx hb dX5_readBoth_1 rfl (lv_at hl 1 rfl) ?_
  have hPc := hP.sub (ws' := [(zo7iirrrririii bl esg (nI ecl) eW eA eE eC (nI ecd) aTp (nI ez) (nI ep) (nI em)), (zaI aTp cTp 100 fTp), (zaI eC ceC 100 feC)]) [0, 1, 2] rfl
  have hDc := hD.sub (ws' := [(zo7iirrrririii bl esg (nI ecl) eW eA eE eC (nI ecd) aTp (nI ez) (nI ep) (nI em)), (zaI aTp cTp 100 fTp), (zaI eC ceC 100 feC)]) [0, 1, 2] (by decide) rfl
  have hKc := hK.sub (tys' := [(cTp, .int), (ceC, .int)]) [0, 1] rfl
  have hFc := va_free (wc := [(zo7iirrrririii bl esg (nI ecl) eW eA eE eC (nI ecd) aTp (nI ez) (nI ep) (nI em)), (zaI aTp cTp 100 fTp), (zaI eC ceC 100 feC)]) hD hS hA [0, 1, 2] rfl
  refine va_calli (va_runV (As := [.int 5]) (rest := []) ⟨hx, hb, hml, hown, hts⟩ (c_xPlain5 l dC dI sK sV bl aTp eW eA eE eC ecl ecd esg cTp ceC fTp feC ez ep em ss kt H.size (hez) (by omega) (by omega) ((hXT).mono (by omega)) (zeC) (gX)) (cwV 1 hts gX5_readBoth_X5_readPlain rfl rfl rfl hd_yX5_readPlain ⟨Nat.le_of_ble_eq_true rfl, Nat.le_of_ble_eq_true rfl⟩) ⟨fun a U g mk q => by obtain ⟨q0, q1, qP, qK, qD, qhE⟩ := q; exact ⟨q0, mvz g mk a q1, mvP g mk a qP, mvK g mk a qK, qD, qhE.mv g mk a⟩, va_recv hK hP (ci := 7) (q := (RX5, TX5, 11)) (q0 := 0) rfl rfl, fun U hU hW => ⟨rfl, by rw [hU], by rw [hU]; exact hPc, va_K.moved hW.alike hKc, hDc.weaken (fun _ _ _ _ => trivial), hE.call hS hU hW (fun q h => hFc q h)⟩⟩ rfl rfl hl.1 rfl (lv_room (Nat.le_of_ble_eq_true rfl)) dX5_readBoth_2 ⟨Nat.le_of_ble_eq_true rfl, Nat.le_of_ble_eq_true rfl⟩) hS (fun q _ h => hFc q h) hFc (fun r_1 u tC H1 locs htC hvm hw_2 hB hz1 hk1 hS => ?_)
  obtain ⟨ecd9_3, ep9_4, em9_5, feC9_6⟩ := u
  try dsimp only at hw_2 hB
  obtain ⟨hP1, hK1, hD1⟩ := hB
  rw [htC] at hP1
  have hK1 := va_K.moved hvm.symm hK1
  obtain ⟨hP, hD⟩ := va_join (wr := []) (w1 := [(zo7iirrrririii bl esg (nI ecl) eW eA eE eC (nI ecd9_3) aTp (nI ez) (nI ep9_4) (nI em9_5)), (zaI aTp cTp 100 fTp), (zaI eC ceC 100 feC9_6)]) hP hD [0, 1, 2] [] rfl rfl (by decide) (by decide) hk1 hFc hP1 hD1
  have hK := (hK.sub (tys' := []) [] rfl).app hK1
  generalize H1 = H at hP hS ⊢
  have hP : va_P (dC, dI) vwCl [(zo7iirrrririii bl esg (nI ecl) eW eA eE eC (nI ecd9_3) aTp (nI ez) (nI ep9_4) (nI em9_5)), (zaI aTp cTp 100 fTp), (zaI eC ceC 100 feC9_6)] H := hP
  have hD : va_D A [(zo7iirrrririii bl esg (nI ecl) eW eA eE eC (nI ecd9_3) aTp (nI ez) (nI ep9_4) (nI em9_5)), (zaI aTp cTp 100 fTp), (zaI eC ceC 100 feC9_6)] := hD
  have hK : va_K (dC, dI) vwCl [(cTp, .int), (ceC, .int)] s := hK
  rcases hw_2 with ⟨rfl, L_7, eP_8, h_9, h_10, h_11, h_12, hX_14, hC_13⟩ | ⟨rfl, eP_8, h_9, h_10, h_11, hC_13⟩
  · skip
    refine lv_if_ne (tgt := 10) hx hb dX5_readBoth_5 (by decide) (fun _ => ?_) (fun c_15 => absurd c_15 (by decide))
    refine lv_iconst (v := 0) hx hb dX5_readBoth_10 (by decide) ?_
    refine lv_istore_n (lv' := [(2, .int 0), (0, .ref bl), (1, .int 5)]) hx hb dX5_readBoth_11 rfl hl (by decide) rfl (fun ls hl => ?_)
    have L12 : ∀ (nF : Nat) (i : Nat) (ecd2 : Nat) (ep2 : Nat) (em2 : Nat) (feC2 : Nat → Int32) (L1 : List Nat) (m1 : Nat), ez - i < nF → (i ≤ ez) → (pEv ss (pFac ss 0) ep = pSep ss 38 1802 (pFac ss 0) m1 (some L1, ep2) ∧ 101 ≤ m1 + ep2) → (ep + 3 + 2 * i ≤ ep2 ∧ ep2 ≤ ez ∧ em2 ≤ 99) → (L1.length + ep ≤ ep2) → (XT feC2 ecd2 (kt ++ L1) ep2) → (∀ k0, k0 < 100 → okC (feC2 k0)) → ∀ (H : Heap) (locs : List Loc), va_K (dC, dI) vwCl [(cTp, .int), (ceC, .int)] s → va_P (dC, dI) vwCl [(zo7iirrrririii bl esg (nI ecl) eW eA eE eC (nI ecd2) aTp (nI ez) (nI ep2) (nI em2)), (zaI aTp cTp 100 fTp), (zaI eC ceC 100 feC2)] H → va_D A [(zo7iirrrririii bl esg (nI ecl) eW eA eE eC (nI ecd2) aTp (nI ez) (nI ep2) (nI em2)), (zaI aTp cTp 100 fTp), (zaI eC ceC 100 feC2)] → va_S A s.heap H locs → ∀ (ls : Array Slot), lv_has ls 3 [(0, .ref bl), (1, .int 5), (2, .int (nI i))] → W p l e ({ frames := 6, cells := 0, slots := 0, locals := 135 } : Room) s m args below meth c H locs 0 0 Q (F0 m 12 ls []) := by
      intro nF
      induction nF with
      | zero => intro i ecd2 ep2 em2 feC2 L1 m1 hm; exact absurd hm (Nat.not_lt_zero _)
      | succ nF ih12 =>
        intro i ecd2 ep2 em2 feC2 L1 m1 hm hii hE9 hp2 hL2 hX2 zC2 H locs hK hP hD hS ls hl
        obtain ⟨hE9, hm9⟩ := hE9
        obtain ⟨hp2a, hp2b, hp2c⟩ := hp2
        refine lv_iload_n hx hb dX5_readBoth_12 rfl (lv_at hl 2 rfl) ?_
        refine lv_aload_n hx hb dX5_readBoth_13 rfl (lv_at hl 0 rfl) ?_
        refine va_get (D := (dC, dI)) (ci := 7) (v := .int (nI ez)) (C := RX5) (T := TX5) (N := 11) hx hb hts kc_xBoth5_0 hown hK hP 0 rfl rfl 8 (by decide) (hts (.fieldLink RX5 31 "MistHeaps$Hill" "size" "I") kc_xBoth5_1) (fun _ h9 => h9) rfl dX5_readBoth_14 ?_
        refine lv_icmp_ge (tgt := 51) hx hb dX5_readBoth_17 (by decide) (fun c_16 => ?_) (fun c_16 => ?_)
        · skip
          have c_16 : ez ≤ i := (nI_leI (a := ez) (b := i) (by omega) (by omega)).mp c_16
          refine lv_iconst (v := 1) hx hb dX5_readBoth_51 (by decide) ?_
          rw [hQ]
          have hP9 := hP.sub (ws' := [(zo7iirrrririii bl esg (nI ecl) eW eA eE eC (nI ecd2) aTp (nI ez) (nI ep2) (nI em2)), (zaI aTp cTp 100 fTp), (zaI eC ceC 100 feC2)]) [0, 1, 2] rfl
          have hD9 := hD.sub (ws' := [(zo7iirrrririii bl esg (nI ecl) eW eA eE eC (nI ecd2) aTp (nI ez) (nI ep2) (nI em2)), (zaI aTp cTp 100 fTp), (zaI eC ceC 100 feC2)]) [0, 1, 2] (by decide) rfl
          have hK9 := hK.sub (tys' := [(cTp, .int), (ceC, .int)]) [0, 1] rfl
          exact W.zret (v := 1) hx hb hr rfl (fun tQ htQ hWQ => ⟨⟨1, (ecd2, ep2, em2, feC2), rfl, Or.inl ⟨rfl, L1, hE9.trans (ps_end (fun z => by have := gX.2.1 ep2 (by omega); omega)), by omega, by omega, by omega, by (try simp only [List.length_append, List.length_cons, List.length_nil]); omega, hX2, zC2⟩, by rw [htQ]; exact hP9, va_K.moved hWQ.alike hK9, hD9⟩, hS.F htQ⟩) hS.2.2 dX5_readBoth_52
        · skip
          have c_16 : ¬ ez ≤ i := fun q => c_16 ((nI_leI (a := ez) (b := i) (by omega) (by omega)).mpr q)
          refine lv_aload_n hx hb dX5_readBoth_20 rfl (lv_at hl 0 rfl) ?_
          refine lv_bipush (v := 38) hx hb dX5_readBoth_21 (by decide) ?_
          have hPc := hP.sub (ws' := [(zo7iirrrririii bl esg (nI ecl) eW eA eE eC (nI ecd2) aTp (nI ez) (nI ep2) (nI em2)), (zaI aTp cTp 100 fTp)]) [0, 1] rfl
          have hDc := hD.sub (ws' := [(zo7iirrrririii bl esg (nI ecl) eW eA eE eC (nI ecd2) aTp (nI ez) (nI ep2) (nI em2)), (zaI aTp cTp 100 fTp)]) [0, 1] (by decide) rfl
          have hKc := hK.sub (tys' := [(cTp, .int)]) [0] rfl
          have hFc := va_free (wc := [(zo7iirrrririii bl esg (nI ecl) eW eA eE eC (nI ecd2) aTp (nI ez) (nI ep2) (nI em2)), (zaI aTp cTp 100 fTp)]) hD hS hA [0, 1] rfl
          refine va_calli (va_runV (As := [.int 38]) (rest := []) ⟨hx, hb, hml, hown, hts⟩ (c_xReadSign l dC dI bl aTp eW eA eE eC 38 ecl ecd2 esg cTp fTp ez ep2 em2 ss H.size (hez) (by omega) (by decide) (by decide) (gX)) (cwV 1 hts gX5_readBoth_X5_readSign rfl rfl rfl hd_yX5_readSign ⟨Nat.le_of_ble_eq_true rfl, Nat.le_of_ble_eq_true rfl⟩) ⟨fun a U g mk q => by obtain ⟨q0, q1, qP, qK, qD⟩ := q; exact ⟨q0, mvz g mk a q1, mvP g mk a qP, mvK g mk a qK, qD⟩, va_recv hK hP (ci := 7) (q := (RX5, TX5, 11)) (q0 := 0) rfl rfl, fun U hU hW => ⟨rfl, by rw [hU], by rw [hU]; exact hPc, va_K.moved hW.alike hKc, hDc.weaken (fun _ _ _ _ => trivial)⟩⟩ rfl rfl hl.1 rfl (lv_room (Nat.le_of_ble_eq_true rfl)) dX5_readBoth_23 ⟨Nat.le_of_ble_eq_true rfl, Nat.le_of_ble_eq_true rfl⟩) hS (fun q _ h => hFc q h) hFc (fun r_17 u tC H1 locs htC hvm hw_18 hB hz1 hk1 hS => ?_)
          obtain ⟨ep9_19, rfl⟩ : ∃ z, z = u := ⟨_, rfl⟩
          try dsimp only at hw_18 hB
          obtain ⟨hP1, hK1, hD1⟩ := hB
          rw [htC] at hP1
          have hK1 := va_K.moved hvm.symm hK1
          obtain ⟨hP, hD⟩ := va_join (wr := [(zaI eC ceC 100 feC2)]) (w1 := [(zo7iirrrririii bl esg (nI ecl) eW eA eE eC (nI ecd2) aTp (nI ez) (nI ep9_19) (nI em2)), (zaI aTp cTp 100 fTp)]) hP hD [0, 1] [2] rfl rfl (by decide) (by decide) hk1 hFc hP1 hD1
          have hK := (hK.sub (tys' := [(ceC, .int)]) [1] rfl).app hK1
          generalize H1 = H at hP hS ⊢
          have hP : va_P (dC, dI) vwCl [(zaI eC ceC 100 feC2), (zo7iirrrririii bl esg (nI ecl) eW eA eE eC (nI ecd2) aTp (nI ez) (nI ep9_19) (nI em2)), (zaI aTp cTp 100 fTp)] H := hP
          have hD : va_D A [(zaI eC ceC 100 feC2), (zo7iirrrririii bl esg (nI ecl) eW eA eE eC (nI ecd2) aTp (nI ez) (nI ep9_19) (nI em2)), (zaI aTp cTp 100 fTp)] := hD
          have hK : va_K (dC, dI) vwCl [(ceC, .int), (cTp, .int)] s := hK
          rcases hw_18 with ⟨rfl, hy9, h_20, e_21⟩ | ⟨rfl, hn9, e_21⟩
          · skip
            obtain rfl := (e_21).symm
            obtain ⟨m2, rfl⟩ : ∃ q : Nat, m1 = q + 1 := ⟨m1 - 1, by omega⟩
            refine lv_if_eq (tgt := 51) hx hb dX5_readBoth_26 (by decide) (fun c_22 => absurd c_22 (by decide)) (fun _ => ?_)
            refine lv_aload_n hx hb dX5_readBoth_29 rfl (lv_at hl 0 rfl) ?_
            refine lv_iload_n hx hb dX5_readBoth_30 rfl (lv_at hl 1 rfl) ?_
            have hPc := hP.sub (ws' := [(zo7iirrrririii bl esg (nI ecl) eW eA eE eC (nI ecd2) aTp (nI ez) (nI (ep2 + 1)) (nI em2)), (zaI aTp cTp 100 fTp), (zaI eC ceC 100 feC2)]) [1, 2, 0] rfl
            have hDc := hD.sub (ws' := [(zo7iirrrririii bl esg (nI ecl) eW eA eE eC (nI ecd2) aTp (nI ez) (nI (ep2 + 1)) (nI em2)), (zaI aTp cTp 100 fTp), (zaI eC ceC 100 feC2)]) [1, 2, 0] (by decide) rfl
            have hKc := hK.sub (tys' := [(cTp, .int), (ceC, .int)]) [1, 0] rfl
            have hFc := va_free (wc := [(zo7iirrrririii bl esg (nI ecl) eW eA eE eC (nI ecd2) aTp (nI ez) (nI (ep2 + 1)) (nI em2)), (zaI aTp cTp 100 fTp), (zaI eC ceC 100 feC2)]) hD hS hA [1, 2, 0] rfl
            refine va_calli (va_runV (As := [.int 5]) (rest := []) ⟨hx, hb, hml, hown, hts⟩ (c_xPlain5 l dC dI sK sV bl aTp eW eA eE eC ecl ecd2 esg cTp ceC fTp feC2 ez (ep2 + 1) em2 ss (kt ++ L1) H.size (hez) (by omega) (by omega) ((hX2).mono (by omega)) (zC2) (gX)) (cwV 1 hts gX5_readBoth_X5_readPlain rfl rfl rfl hd_yX5_readPlain ⟨Nat.le_of_ble_eq_true rfl, Nat.le_of_ble_eq_true rfl⟩) ⟨fun a U g mk q => by obtain ⟨q0, q1, qP, qK, qD, qhE⟩ := q; exact ⟨q0, mvz g mk a q1, mvP g mk a qP, mvK g mk a qK, qD, qhE.mv g mk a⟩, va_recv hK hP (ci := 7) (q := (RX5, TX5, 11)) (q0 := 1) rfl rfl, fun U hU hW => ⟨rfl, by rw [hU], by rw [hU]; exact hPc, va_K.moved hW.alike hKc, hDc.weaken (fun _ _ _ _ => trivial), hE.call hS hU hW (fun q h => hFc q h)⟩⟩ rfl rfl hl.1 rfl (lv_room (Nat.le_of_ble_eq_true rfl)) dX5_readBoth_31 ⟨Nat.le_of_ble_eq_true rfl, Nat.le_of_ble_eq_true rfl⟩) hS (fun q _ h => hFc q h) hFc (fun r_23 u tC H1 locs htC hvm hw_24 hB hz1 hk1 hS => ?_)
            obtain ⟨ecd9_25, ep9_26, em9_27, feC9_28⟩ := u
            try dsimp only at hw_24 hB
            obtain ⟨hP1, hK1, hD1⟩ := hB
            rw [htC] at hP1
            have hK1 := va_K.moved hvm.symm hK1
            obtain ⟨hP, hD⟩ := va_join (wr := []) (w1 := [(zo7iirrrririii bl esg (nI ecl) eW eA eE eC (nI ecd9_25) aTp (nI ez) (nI ep9_26) (nI em9_27)), (zaI aTp cTp 100 fTp), (zaI eC ceC 100 feC9_28)]) hP hD [1, 2, 0] [] rfl rfl (by decide) (by decide) hk1 hFc hP1 hD1
            have hK := (hK.sub (tys' := []) [] rfl).app hK1
            generalize H1 = H at hP hS ⊢
            have hP : va_P (dC, dI) vwCl [(zo7iirrrririii bl esg (nI ecl) eW eA eE eC (nI ecd9_25) aTp (nI ez) (nI ep9_26) (nI em9_27)), (zaI aTp cTp 100 fTp), (zaI eC ceC 100 feC9_28)] H := hP
            have hD : va_D A [(zo7iirrrririii bl esg (nI ecl) eW eA eE eC (nI ecd9_25) aTp (nI ez) (nI ep9_26) (nI em9_27)), (zaI aTp cTp 100 fTp), (zaI eC ceC 100 feC9_28)] := hD
            have hK : va_K (dC, dI) vwCl [(cTp, .int), (ceC, .int)] s := hK
            rcases hw_24 with ⟨rfl, L_29, eP_30, h_31, h_32, h_33, h_34, hX_36, hC_35⟩ | ⟨rfl, eP_30, h_31, h_32, h_33, hC_35⟩
            · skip
              refine lv_if_ne (tgt := 39) hx hb dX5_readBoth_34 (by decide) (fun _ => ?_) (fun c_37 => absurd c_37 (by decide))
              refine lv_aload_n hx hb dX5_readBoth_39 rfl (lv_at hl 0 rfl) ?_
              refine lv_bipush (v := (-2)) hx hb dX5_readBoth_40 (by decide) ?_
              have hPc := hP.sub (ws' := [(zo7iirrrririii bl esg (nI ecl) eW eA eE eC (nI ecd9_25) aTp (nI ez) (nI ep9_26) (nI em9_27)), (zaI eC ceC 100 feC9_28)]) [0, 2] rfl
              have hDc := hD.sub (ws' := [(zo7iirrrririii bl esg (nI ecl) eW eA eE eC (nI ecd9_25) aTp (nI ez) (nI ep9_26) (nI em9_27)), (zaI eC ceC 100 feC9_28)]) [0, 2] (by decide) rfl
              have hKc := hK.sub (tys' := [(ceC, .int)]) [1] rfl
              have hFc := va_free (wc := [(zo7iirrrririii bl esg (nI ecl) eW eA eE eC (nI ecd9_25) aTp (nI ez) (nI ep9_26) (nI em9_27)), (zaI eC ceC 100 feC9_28)]) hD hS hA [0, 2] rfl
              refine va_callv (va_runV (As := [.int (-2)]) (rest := []) ⟨hx, hb, hml, hown, hts⟩ (c_xCode l dC dI bl aTp eW eA eE eC ecl ecd9_25 (-2) esg ceC feC9_28 ez ep9_26 em9_27 ((kt ++ L1) ++ L_29) 1802 H.size ((hX_36).mono (by omega)) (by have h6 := (hX_36).1; have h7 := (hX_36).2.1; have h8 := hXT.1; have h9 := hXT.2.1; (try simp only [List.length_append] at h6); omega) (hC_35) (Or.inr (Or.inl rfl)) (by decide)) (cwV 1 hts gX5_readBoth_X5_code rfl rfl rfl hd_yX5_code ⟨Nat.le_of_ble_eq_true rfl, Nat.le_of_ble_eq_true rfl⟩) ⟨fun a U g mk q => by obtain ⟨q0, q1, qP, qK, qD⟩ := q; exact ⟨q0, mvz g mk a q1, mvP g mk a qP, mvK g mk a qK, qD⟩, va_recv hK hP (ci := 7) (q := (RX5, TX5, 11)) (q0 := 0) rfl rfl, fun U hU hW => ⟨rfl, by rw [hU], by rw [hU]; exact hPc, va_K.moved hW.alike hKc, hDc.weaken (fun _ _ _ _ => trivial)⟩⟩ rfl rfl hl.1 rfl (lv_room (Nat.le_of_ble_eq_true rfl)) dX5_readBoth_42 ⟨Nat.le_of_ble_eq_true rfl, Nat.le_of_ble_eq_true rfl⟩) hS (fun q _ h => hFc q h) hFc (fun u tC H1 locs htC hvm hw_39 hB hz1 hk1 hS => ?_)
              obtain ⟨ecd9_40, feC9_41⟩ := u
              try dsimp only at hw_39 hB
              obtain ⟨hP1, hK1, hD1⟩ := hB
              rw [htC] at hP1
              have hK1 := va_K.moved hvm.symm hK1
              obtain ⟨hP, hD⟩ := va_join (wr := [(zaI aTp cTp 100 fTp)]) (w1 := [(zo7iirrrririii bl esg (nI ecl) eW eA eE eC (nI ecd9_40) aTp (nI ez) (nI ep9_26) (nI em9_27)), (zaI eC ceC 100 feC9_41)]) hP hD [0, 2] [1] rfl rfl (by decide) (by decide) hk1 hFc hP1 hD1
              have hK := (hK.sub (tys' := [(cTp, .int)]) [0] rfl).app hK1
              generalize H1 = H at hP hS ⊢
              have hP : va_P (dC, dI) vwCl [(zaI aTp cTp 100 fTp), (zo7iirrrririii bl esg (nI ecl) eW eA eE eC (nI ecd9_40) aTp (nI ez) (nI ep9_26) (nI em9_27)), (zaI eC ceC 100 feC9_41)] H := hP
              have hD : va_D A [(zaI aTp cTp 100 fTp), (zo7iirrrririii bl esg (nI ecl) eW eA eE eC (nI ecd9_40) aTp (nI ez) (nI ep9_26) (nI em9_27)), (zaI eC ceC 100 feC9_41)] := hD
              have hK : va_K (dC, dI) vwCl [(cTp, .int), (ceC, .int)] s := hK
              obtain ⟨e_42, hC_43, h_44⟩ := hw_39
              obtain rfl := (e_42).symm
              have hX_45 : XT feC9_41 (ecd9_25 + 1) (((kt ++ L1) ++ L_29) ++ [1802]) (ep9_26) := ⟨by rw [List.length_append, (hX_36).1]; rfl, by have h6 := (hX_36).1; have h7 := (hX_36).2.1; have h8 := hXT.1; have h9 := hXT.2.1; (try simp only [List.length_append] at h6); omega, h_44⟩
              refine lv_iinc (v := nI (i + 1)) (lv' := [(2, .int (nI (i + 1))), (0, .ref bl), (1, .int 5)]) hx hb dX5_readBoth_45 hl (k := 2) rfl (nI_add i 1) (by decide) rfl (fun ls hl => ?_)
              refine lv_goto (tgt := 12) hx hb dX5_readBoth_48 (by decide) ?_
              exact ih12 (i + 1) _ _ _ _ (L1 ++ (L_29 ++ [1802])) (m2) (by omega) (by omega) (⟨hE9.trans (ps_go hy9 eP_30), by omega⟩) (by omega) (by simp only [List.length_append, List.length_cons, List.length_nil]; omega) (XT.as (XT.as (hX_45))) (hC_43) _ _ (hK.sub [0, 1] rfl) (hP.sub [1, 0, 2] rfl) (hD.sub [1, 0, 2] (by decide) rfl) hS ls (lv_sub hl [1, 2, 0] rfl)
            · skip
              refine lv_if_ne (tgt := 39) hx hb dX5_readBoth_34 (by decide) (fun c_46 => absurd c_46 (by decide)) (fun _ => ?_)
              refine lv_iconst (v := 0) hx hb dX5_readBoth_37 (by decide) ?_
              rw [hQ]
              have hP9 := hP.sub (ws' := [(zo7iirrrririii bl esg (nI ecl) eW eA eE eC (nI ecd9_25) aTp (nI ez) (nI ep9_26) (nI em9_27)), (zaI aTp cTp 100 fTp), (zaI eC ceC 100 feC9_28)]) [0, 1, 2] rfl
              have hD9 := hD.sub (ws' := [(zo7iirrrririii bl esg (nI ecl) eW eA eE eC (nI ecd9_25) aTp (nI ez) (nI ep9_26) (nI em9_27)), (zaI aTp cTp 100 fTp), (zaI eC ceC 100 feC9_28)]) [0, 1, 2] (by decide) rfl
              have hK9 := hK.sub (tys' := [(cTp, .int), (ceC, .int)]) [0, 1] rfl
              exact W.zret (v := 0) hx hb hr rfl (fun tQ htQ hWQ => ⟨⟨0, (ecd9_25, ep9_26, em9_27, feC9_28), rfl, Or.inr ⟨rfl, hE9.trans (ps_bad hy9 eP_30), by omega, by omega, by first | omega | (have := (hXT).2.1; omega), hC_35⟩, by rw [htQ]; exact hP9, va_K.moved hWQ.alike hK9, hD9⟩, hS.F htQ⟩) hS.2.2 dX5_readBoth_38
          · skip
            obtain rfl := (e_21).symm
            refine lv_if_eq (tgt := 51) hx hb dX5_readBoth_26 (by decide) (fun _ => ?_) (fun c_47 => absurd c_47 (by decide))
            refine lv_iconst (v := 1) hx hb dX5_readBoth_51 (by decide) ?_
            rw [hQ]
            have hP9 := hP.sub (ws' := [(zo7iirrrririii bl esg (nI ecl) eW eA eE eC (nI ecd2) aTp (nI ez) (nI ep2) (nI em2)), (zaI aTp cTp 100 fTp), (zaI eC ceC 100 feC2)]) [1, 2, 0] rfl
            have hD9 := hD.sub (ws' := [(zo7iirrrririii bl esg (nI ecl) eW eA eE eC (nI ecd2) aTp (nI ez) (nI ep2) (nI em2)), (zaI aTp cTp 100 fTp), (zaI eC ceC 100 feC2)]) [1, 2, 0] (by decide) rfl
            have hK9 := hK.sub (tys' := [(cTp, .int), (ceC, .int)]) [1, 0] rfl
            exact W.zret (v := 1) hx hb hr rfl (fun tQ htQ hWQ => ⟨⟨1, (ecd2, ep2, em2, feC2), rfl, Or.inl ⟨rfl, L1, hE9.trans (ps_end hn9), by omega, by omega, by omega, by (try simp only [List.length_append, List.length_cons, List.length_nil]); omega, hX2, zC2⟩, by rw [htQ]; exact hP9, va_K.moved hWQ.alike hK9, hD9⟩, hS.F htQ⟩) hS.2.2 dX5_readBoth_52
    exact L12 _ (0) _ _ _ _ (L_7) (101) (Nat.lt_succ_self _) (by omega) (⟨pEv_s eP_8, by omega⟩) (by omega) (by omega) (hX_14) (hC_13) _ _ (hK.sub [0, 1] rfl) (hP.sub [0, 1, 2] rfl) (hD.sub [0, 1, 2] (by decide) rfl) hS ls (lv_sub hl [1, 2, 0] rfl)
  · skip
    refine lv_if_ne (tgt := 10) hx hb dX5_readBoth_5 (by decide) (fun c_48 => absurd c_48 (by decide)) (fun _ => ?_)
    refine lv_iconst (v := 0) hx hb dX5_readBoth_8 (by decide) ?_
    rw [hQ]
    have hP9 := hP.sub (ws' := [(zo7iirrrririii bl esg (nI ecl) eW eA eE eC (nI ecd9_3) aTp (nI ez) (nI ep9_4) (nI em9_5)), (zaI aTp cTp 100 fTp), (zaI eC ceC 100 feC9_6)]) [0, 1, 2] rfl
    have hD9 := hD.sub (ws' := [(zo7iirrrririii bl esg (nI ecl) eW eA eE eC (nI ecd9_3) aTp (nI ez) (nI ep9_4) (nI em9_5)), (zaI aTp cTp 100 fTp), (zaI eC ceC 100 feC9_6)]) [0, 1, 2] (by decide) rfl
    have hK9 := hK.sub (tys' := [(cTp, .int), (ceC, .int)]) [0, 1] rfl
    exact W.zret (v := 0) hx hb hr rfl (fun tQ htQ hWQ => ⟨⟨0, (ecd9_3, ep9_4, em9_5, feC9_6), rfl, Or.inr ⟨rfl, pEv_n eP_8, by omega, by omega, by first | omega | (have := (hXT).2.1; omega), hC_13⟩, by rw [htQ]; exact hP9, va_K.moved hWQ.alike hK9, hD9⟩, hS.F htQ⟩) hS.2.2 dX5_readBoth_9

theorem kc_xEither5_0 : ∀ w ∈ wsX50, w ∈ wsX5_readEither := fun w h => List.mem_cons_of_mem _ (gin_wsX50 w h)
theorem kc_xEither5_1 : (.fieldLink RX5 31 "MistHeaps$Hill" "size" "I" : Cond) ∈ wsX5_readEither := kc_of 123 rfl rfl rfl
set_option maxHeartbeats 4000000 in
set_option maxRecDepth 100000 in
theorem c_xEither5 (l : Launch) (dC : Nat → ClassId) (dI : Nat → Nat → Nat) (sK sV : Nat → Nat) (bl : Nat) (aTp : Nat) (eW : Nat) (eA : Nat) (eE : Nat) (eC : Nat) (ecl : Nat) (ecd : Nat) (esg : Int32) (cTp : ClassId) (ceC : ClassId) (fTp : Nat → Int32) (feC : Nat → Int32) (ez : Nat) (ep : Nat) (em : Nat) (ss : Nat → Nat) (kt : List Nat) (sz : Nat) (hez : ez ≤ 100) (hep : ep ≤ ez) (hem : em ≤ 99) (hXT : XT feC ecd kt ep) (zeC : ∀ k0, k0 < 100 → okC (feC k0)) (gX : TX fTp ez ss) : Met l yX5_readEither wsX5_readEither ({ frames := 7, cells := 0, slots := 0, locals := 157 } : Room) (va_Pc [.ref bl, .int 5] (fun U => U.heap.size = sz ∧ va_P (dC, dI) vwCl [(zo7iirrrririii bl esg (nI ecl) eW eA eE eC (nI ecd) aTp (nI ez) (nI ep) (nI em)), (zaI aTp cTp 100 fTp), (zaI eC ceC 100 feC)] U.heap ∧ va_K (dC, dI) vwCl [(cTp, .int), (ceC, .int)] U ∧ va_D (fun _ => True) [(zo7iirrrririii bl esg (nI ecl) eW eA eE eC (nI ecd) aTp (nI ez) (nI ep) (nI em)), (zaI aTp cTp 100 fTp), (zaI eC ceC 100 feC)] ∧ Gs sK sV (va_A [(zo7iirrrririii bl esg (nI ecl) eW eA eE eC (nI ecd) aTp (nI ez) (nI ep) (nI em)), (zaI aTp cTp 100 fTp), (zaI eC ceC 100 feC)] sz) U)) (va_Qi (fun (r : Int32) (u : (Nat) × (Nat) × (Nat) × (Nat → Int32)) => match u with | (ecd9, ep9, em9, feC9) => (r = 1 ∧ ∃ L0 : List Nat, pSm ss (pFac ss 0) ep = (some L0, ep9) ∧ ep + 3 ≤ ep9 ∧ ep9 ≤ ez ∧ em9 ≤ 99 ∧ L0.length + ep ≤ ep9 ∧ XT feC9 ecd9 (kt ++ L0) ep9 ∧ ∀ k0, k0 < 100 → okC (feC9 k0)) ∨ (r = 0 ∧ pSm ss (pFac ss 0) ep = (none, ep9) ∧ ep9 ≤ ez + 2 ∧ em9 ≤ 99 ∧ ecd9 ≤ 100 ∧ ∀ k0, k0 < 100 → okC (feC9 k0))) (fun (u : (Nat) × (Nat) × (Nat) × (Nat → Int32)) (t : State) => match u with | (ecd9, ep9, em9, feC9) => va_P (dC, dI) vwCl [(zo7iirrrririii bl esg (nI ecl) eW eA eE eC (nI ecd9) aTp (nI ez) (nI ep9) (nI em9)), (zaI aTp cTp 100 fTp), (zaI eC ceC 100 feC9)] t.heap ∧ va_K (dC, dI) vwCl [(cTp, .int), (ceC, .int)] t ∧ va_D (va_A [(zo7iirrrririii bl esg (nI ecl) eW eA eE eC (nI ecd) aTp (nI ez) (nI ep) (nI em)), (zaI aTp cTp 100 fTp), (zaI eC ceC 100 feC)] sz) [(zo7iirrrririii bl esg (nI ecl) eW eA eE eC (nI ecd9) aTp (nI ez) (nI ep9) (nI em9)), (zaI aTp cTp 100 fTp), (zaI eC ceC 100 feC9)]) (va_A [(zo7iirrrririii bl esg (nI ecl) eW eA eE eC (nI ecd) aTp (nI ez) (nI ep) (nI em)), (zaI aTp cTp 100 fTp), (zaI eC ceC 100 feC)] sz)) 0 0 (va_A [(zo7iirrrririii bl esg (nI ecl) eW eA eE eC (nI ecd) aTp (nI ez) (nI ep) (nI em)), (zaI aTp cTp 100 fTp), (zaI eC ceC 100 feC)] sz) := by
  refine met_ofQ (cc := cX5_readEither) (maxL := 3) (ret := (some .boolean)) (by decide) rfl ?_
  intro p e s m args below meth c s₁ Q B hml hv hQ
  obtain ⟨rfl, hsz, hP, hK, hD0, hE⟩ := hv
  have hx := B.exec
  have hb := B.bytes
  have hr := B.returns
  have hts := atoms_spec (ws := wsX5_readEither) B.pre
  have hown : s.vm.findClass RX5 = some m.cls := findClass_of_methodNamed B.named
  have hlocks := B.notSynchronized
  subst hsz
  have hD := hD0.self (sz := s.heap.size)
  generalize hAe : va_A [(zo7iirrrririii bl esg (nI ecl) eW eA eE eC (nI ecd) aTp (nI ez) (nI ep) (nI em)), (zaI aTp cTp 100 fTp), (zaI eC ceC 100 feC)] s.heap.size = A at hD hQ hE ⊢
  have hA : ∀ q : Nat, s.heap.size ≤ q → A q := fun q h => by rw [← hAe]; exact Or.inr h
  have hS : va_S A s.heap s.heap [] := va_S.rf
  have hl := lv_entry [.ref bl, .int 5] (n := 3) (Nat.le_of_ble_eq_true rfl)
  rw [lg_entry_eq]
  generalize (lg_sl [.ref bl, .int 5] ++ List.replicate (3 - (lg_sl [.ref bl, .int 5]).length) Slot.unset).toArray = ls at hl ⊢
  generalize hag : ([.ref bl, .int 5] : List Value).toArray = args at hts hQ ⊢
  have hl : lv_has ls 3 [(0, .ref bl), (1, .int 5)] := hl
  obtain ⟨H, hH⟩ : ∃ H : Heap, H = s.heap := ⟨_, rfl⟩
  rw [← hH] at hP
  rw [← hH]
  have hS : va_S A s.heap H [] := by rw [hH]; exact hS
  obtain ⟨locs, hlo⟩ : ∃ L : List Loc, L = [] := ⟨_, rfl⟩
  rw [← hlo] at hS
  rw [← hlo]
  clear hH hlo
  refine lv_aload_n hx hb dX5_readEither_0 rfl (lv_at hl 0 rfl) ?_
  refine lv_iload_n hx hb dX5_readEither_1 rfl (lv_at hl 1 rfl) ?_
  have hPc := hP.sub (ws' := [(zo7iirrrririii bl esg (nI ecl) eW eA eE eC (nI ecd) aTp (nI ez) (nI ep) (nI em)), (zaI aTp cTp 100 fTp), (zaI eC ceC 100 feC)]) [0, 1, 2] rfl
  have hDc := hD.sub (ws' := [(zo7iirrrririii bl esg (nI ecl) eW eA eE eC (nI ecd) aTp (nI ez) (nI ep) (nI em)), (zaI aTp cTp 100 fTp), (zaI eC ceC 100 feC)]) [0, 1, 2] (by decide) rfl
  have hKc := hK.sub (tys' := [(cTp, .int), (ceC, .int)]) [0, 1] rfl
  have hFc := va_free (wc := [(zo7iirrrririii bl esg (nI ecl) eW eA eE eC (nI ecd) aTp (nI ez) (nI ep) (nI em)), (zaI aTp cTp 100 fTp), (zaI eC ceC 100 feC)]) hD hS hA [0, 1, 2] rfl
  refine va_calli (va_runV (As := [.int 5]) (rest := []) ⟨hx, hb, hml, hown, hts⟩ (c_xBoth5 l dC dI sK sV bl aTp eW eA eE eC ecl ecd esg cTp ceC fTp feC ez ep em ss kt H.size (hez) (by omega) (by omega) ((hXT).mono (by omega)) (zeC) (gX)) (cwV 1 hts gX5_readEither_X5_readBoth rfl rfl rfl hd_yX5_readBoth ⟨Nat.le_of_ble_eq_true rfl, Nat.le_of_ble_eq_true rfl⟩) ⟨fun a U g mk q => by obtain ⟨q0, q1, qP, qK, qD, qhE⟩ := q; exact ⟨q0, mvz g mk a q1, mvP g mk a qP, mvK g mk a qK, qD, qhE.mv g mk a⟩, va_recv hK hP (ci := 7) (q := (RX5, TX5, 11)) (q0 := 0) rfl rfl, fun U hU hW => ⟨rfl, by rw [hU], by rw [hU]; exact hPc, va_K.moved hW.alike hKc, hDc.weaken (fun _ _ _ _ => trivial), hE.call hS hU hW (fun q h => hFc q h)⟩⟩ rfl rfl hl.1 rfl (lv_room (Nat.le_of_ble_eq_true rfl)) dX5_readEither_2 ⟨Nat.le_of_ble_eq_true rfl, Nat.le_of_ble_eq_true rfl⟩) hS (fun q _ h => hFc q h) hFc (fun r_1 u tC H1 locs htC hvm hw_2 hB hz1 hk1 hS => ?_)
  obtain ⟨ecd9_3, ep9_4, em9_5, feC9_6⟩ := u
  try dsimp only at hw_2 hB
  obtain ⟨hP1, hK1, hD1⟩ := hB
  rw [htC] at hP1
  have hK1 := va_K.moved hvm.symm hK1
  obtain ⟨hP, hD⟩ := va_join (wr := []) (w1 := [(zo7iirrrririii bl esg (nI ecl) eW eA eE eC (nI ecd9_3) aTp (nI ez) (nI ep9_4) (nI em9_5)), (zaI aTp cTp 100 fTp), (zaI eC ceC 100 feC9_6)]) hP hD [0, 1, 2] [] rfl rfl (by decide) (by decide) hk1 hFc hP1 hD1
  have hK := (hK.sub (tys' := []) [] rfl).app hK1
  generalize H1 = H at hP hS ⊢
  have hP : va_P (dC, dI) vwCl [(zo7iirrrririii bl esg (nI ecl) eW eA eE eC (nI ecd9_3) aTp (nI ez) (nI ep9_4) (nI em9_5)), (zaI aTp cTp 100 fTp), (zaI eC ceC 100 feC9_6)] H := hP
  have hD : va_D A [(zo7iirrrririii bl esg (nI ecl) eW eA eE eC (nI ecd9_3) aTp (nI ez) (nI ep9_4) (nI em9_5)), (zaI aTp cTp 100 fTp), (zaI eC ceC 100 feC9_6)] := hD
  have hK : va_K (dC, dI) vwCl [(cTp, .int), (ceC, .int)] s := hK
  rcases hw_2 with ⟨rfl, L_7, eP_8, h_9, h_10, h_11, h_12, hX_14, hC_13⟩ | ⟨rfl, eP_8, h_9, h_10, h_11, hC_13⟩
  · skip
    refine lv_if_ne (tgt := 10) hx hb dX5_readEither_5 (by decide) (fun _ => ?_) (fun c_15 => absurd c_15 (by decide))
    refine lv_iconst (v := 0) hx hb dX5_readEither_10 (by decide) ?_
    refine lv_istore_n (lv' := [(2, .int 0), (0, .ref bl), (1, .int 5)]) hx hb dX5_readEither_11 rfl hl (by decide) rfl (fun ls hl => ?_)
    have L12 : ∀ (nF : Nat) (i : Nat) (ecd2 : Nat) (ep2 : Nat) (em2 : Nat) (feC2 : Nat → Int32) (L1 : List Nat) (m1 : Nat), ez - i < nF → (i ≤ ez) → (pSm ss (pFac ss 0) ep = pSep ss 124 1803 (pEv ss (pFac ss 0)) m1 (some L1, ep2) ∧ 101 ≤ m1 + ep2) → (ep + 3 + 2 * i ≤ ep2 ∧ ep2 ≤ ez ∧ em2 ≤ 99) → (L1.length + ep ≤ ep2) → (XT feC2 ecd2 (kt ++ L1) ep2) → (∀ k0, k0 < 100 → okC (feC2 k0)) → ∀ (H : Heap) (locs : List Loc), va_K (dC, dI) vwCl [(cTp, .int), (ceC, .int)] s → va_P (dC, dI) vwCl [(zo7iirrrririii bl esg (nI ecl) eW eA eE eC (nI ecd2) aTp (nI ez) (nI ep2) (nI em2)), (zaI aTp cTp 100 fTp), (zaI eC ceC 100 feC2)] H → va_D A [(zo7iirrrririii bl esg (nI ecl) eW eA eE eC (nI ecd2) aTp (nI ez) (nI ep2) (nI em2)), (zaI aTp cTp 100 fTp), (zaI eC ceC 100 feC2)] → va_S A s.heap H locs → ∀ (ls : Array Slot), lv_has ls 3 [(0, .ref bl), (1, .int 5), (2, .int (nI i))] → W p l e ({ frames := 7, cells := 0, slots := 0, locals := 157 } : Room) s m args below meth c H locs 0 0 Q (F0 m 12 ls []) := by
      intro nF
      induction nF with
      | zero => intro i ecd2 ep2 em2 feC2 L1 m1 hm; exact absurd hm (Nat.not_lt_zero _)
      | succ nF ih12 =>
        intro i ecd2 ep2 em2 feC2 L1 m1 hm hii hE9 hp2 hL2 hX2 zC2 H locs hK hP hD hS ls hl
        obtain ⟨hE9, hm9⟩ := hE9
        obtain ⟨hp2a, hp2b, hp2c⟩ := hp2
        refine lv_iload_n hx hb dX5_readEither_12 rfl (lv_at hl 2 rfl) ?_
        refine lv_aload_n hx hb dX5_readEither_13 rfl (lv_at hl 0 rfl) ?_
        refine va_get (D := (dC, dI)) (ci := 7) (v := .int (nI ez)) (C := RX5) (T := TX5) (N := 11) hx hb hts kc_xEither5_0 hown hK hP 0 rfl rfl 8 (by decide) (hts (.fieldLink RX5 31 "MistHeaps$Hill" "size" "I") kc_xEither5_1) (fun _ h9 => h9) rfl dX5_readEither_14 ?_
        refine lv_icmp_ge (tgt := 51) hx hb dX5_readEither_17 (by decide) (fun c_16 => ?_) (fun c_16 => ?_)
        · skip
          have c_16 : ez ≤ i := (nI_leI (a := ez) (b := i) (by omega) (by omega)).mp c_16
          refine lv_iconst (v := 1) hx hb dX5_readEither_51 (by decide) ?_
          rw [hQ]
          have hP9 := hP.sub (ws' := [(zo7iirrrririii bl esg (nI ecl) eW eA eE eC (nI ecd2) aTp (nI ez) (nI ep2) (nI em2)), (zaI aTp cTp 100 fTp), (zaI eC ceC 100 feC2)]) [0, 1, 2] rfl
          have hD9 := hD.sub (ws' := [(zo7iirrrririii bl esg (nI ecl) eW eA eE eC (nI ecd2) aTp (nI ez) (nI ep2) (nI em2)), (zaI aTp cTp 100 fTp), (zaI eC ceC 100 feC2)]) [0, 1, 2] (by decide) rfl
          have hK9 := hK.sub (tys' := [(cTp, .int), (ceC, .int)]) [0, 1] rfl
          exact W.zret (v := 1) hx hb hr rfl (fun tQ htQ hWQ => ⟨⟨1, (ecd2, ep2, em2, feC2), rfl, Or.inl ⟨rfl, L1, hE9.trans (ps_end (fun z => by have := gX.2.1 ep2 (by omega); omega)), by omega, by omega, by omega, by (try simp only [List.length_append, List.length_cons, List.length_nil]); omega, hX2, zC2⟩, by rw [htQ]; exact hP9, va_K.moved hWQ.alike hK9, hD9⟩, hS.F htQ⟩) hS.2.2 dX5_readEither_52
        · skip
          have c_16 : ¬ ez ≤ i := fun q => c_16 ((nI_leI (a := ez) (b := i) (by omega) (by omega)).mpr q)
          refine lv_aload_n hx hb dX5_readEither_20 rfl (lv_at hl 0 rfl) ?_
          refine lv_bipush (v := 124) hx hb dX5_readEither_21 (by decide) ?_
          have hPc := hP.sub (ws' := [(zo7iirrrririii bl esg (nI ecl) eW eA eE eC (nI ecd2) aTp (nI ez) (nI ep2) (nI em2)), (zaI aTp cTp 100 fTp)]) [0, 1] rfl
          have hDc := hD.sub (ws' := [(zo7iirrrririii bl esg (nI ecl) eW eA eE eC (nI ecd2) aTp (nI ez) (nI ep2) (nI em2)), (zaI aTp cTp 100 fTp)]) [0, 1] (by decide) rfl
          have hKc := hK.sub (tys' := [(cTp, .int)]) [0] rfl
          have hFc := va_free (wc := [(zo7iirrrririii bl esg (nI ecl) eW eA eE eC (nI ecd2) aTp (nI ez) (nI ep2) (nI em2)), (zaI aTp cTp 100 fTp)]) hD hS hA [0, 1] rfl
          refine va_calli (va_runV (As := [.int 124]) (rest := []) ⟨hx, hb, hml, hown, hts⟩ (c_xReadSign l dC dI bl aTp eW eA eE eC 124 ecl ecd2 esg cTp fTp ez ep2 em2 ss H.size (hez) (by omega) (by decide) (by decide) (gX)) (cwV 1 hts gX5_readEither_X5_readSign rfl rfl rfl hd_yX5_readSign ⟨Nat.le_of_ble_eq_true rfl, Nat.le_of_ble_eq_true rfl⟩) ⟨fun a U g mk q => by obtain ⟨q0, q1, qP, qK, qD⟩ := q; exact ⟨q0, mvz g mk a q1, mvP g mk a qP, mvK g mk a qK, qD⟩, va_recv hK hP (ci := 7) (q := (RX5, TX5, 11)) (q0 := 0) rfl rfl, fun U hU hW => ⟨rfl, by rw [hU], by rw [hU]; exact hPc, va_K.moved hW.alike hKc, hDc.weaken (fun _ _ _ _ => trivial)⟩⟩ rfl rfl hl.1 rfl (lv_room (Nat.le_of_ble_eq_true rfl)) dX5_readEither_23 ⟨Nat.le_of_ble_eq_true rfl, Nat.le_of_ble_eq_true rfl⟩) hS (fun q _ h => hFc q h) hFc (fun r_17 u tC H1 locs htC hvm hw_18 hB hz1 hk1 hS => ?_)
          obtain ⟨ep9_19, rfl⟩ : ∃ z, z = u := ⟨_, rfl⟩
          try dsimp only at hw_18 hB
          obtain ⟨hP1, hK1, hD1⟩ := hB
          rw [htC] at hP1
          have hK1 := va_K.moved hvm.symm hK1
          obtain ⟨hP, hD⟩ := va_join (wr := [(zaI eC ceC 100 feC2)]) (w1 := [(zo7iirrrririii bl esg (nI ecl) eW eA eE eC (nI ecd2) aTp (nI ez) (nI ep9_19) (nI em2)), (zaI aTp cTp 100 fTp)]) hP hD [0, 1] [2] rfl rfl (by decide) (by decide) hk1 hFc hP1 hD1
          have hK := (hK.sub (tys' := [(ceC, .int)]) [1] rfl).app hK1
          generalize H1 = H at hP hS ⊢
          have hP : va_P (dC, dI) vwCl [(zaI eC ceC 100 feC2), (zo7iirrrririii bl esg (nI ecl) eW eA eE eC (nI ecd2) aTp (nI ez) (nI ep9_19) (nI em2)), (zaI aTp cTp 100 fTp)] H := hP
          have hD : va_D A [(zaI eC ceC 100 feC2), (zo7iirrrririii bl esg (nI ecl) eW eA eE eC (nI ecd2) aTp (nI ez) (nI ep9_19) (nI em2)), (zaI aTp cTp 100 fTp)] := hD
          have hK : va_K (dC, dI) vwCl [(ceC, .int), (cTp, .int)] s := hK
          rcases hw_18 with ⟨rfl, hy9, h_20, e_21⟩ | ⟨rfl, hn9, e_21⟩
          · skip
            obtain rfl := (e_21).symm
            obtain ⟨m2, rfl⟩ : ∃ q : Nat, m1 = q + 1 := ⟨m1 - 1, by omega⟩
            refine lv_if_eq (tgt := 51) hx hb dX5_readEither_26 (by decide) (fun c_22 => absurd c_22 (by decide)) (fun _ => ?_)
            refine lv_aload_n hx hb dX5_readEither_29 rfl (lv_at hl 0 rfl) ?_
            refine lv_iload_n hx hb dX5_readEither_30 rfl (lv_at hl 1 rfl) ?_
            have hPc := hP.sub (ws' := [(zo7iirrrririii bl esg (nI ecl) eW eA eE eC (nI ecd2) aTp (nI ez) (nI (ep2 + 1)) (nI em2)), (zaI aTp cTp 100 fTp), (zaI eC ceC 100 feC2)]) [1, 2, 0] rfl
            have hDc := hD.sub (ws' := [(zo7iirrrririii bl esg (nI ecl) eW eA eE eC (nI ecd2) aTp (nI ez) (nI (ep2 + 1)) (nI em2)), (zaI aTp cTp 100 fTp), (zaI eC ceC 100 feC2)]) [1, 2, 0] (by decide) rfl
            have hKc := hK.sub (tys' := [(cTp, .int), (ceC, .int)]) [1, 0] rfl
            have hFc := va_free (wc := [(zo7iirrrririii bl esg (nI ecl) eW eA eE eC (nI ecd2) aTp (nI ez) (nI (ep2 + 1)) (nI em2)), (zaI aTp cTp 100 fTp), (zaI eC ceC 100 feC2)]) hD hS hA [1, 2, 0] rfl
            refine va_calli (va_runV (As := [.int 5]) (rest := []) ⟨hx, hb, hml, hown, hts⟩ (c_xBoth5 l dC dI sK sV bl aTp eW eA eE eC ecl ecd2 esg cTp ceC fTp feC2 ez (ep2 + 1) em2 ss (kt ++ L1) H.size (hez) (by omega) (by omega) ((hX2).mono (by omega)) (zC2) (gX)) (cwV 1 hts gX5_readEither_X5_readBoth rfl rfl rfl hd_yX5_readBoth ⟨Nat.le_of_ble_eq_true rfl, Nat.le_of_ble_eq_true rfl⟩) ⟨fun a U g mk q => by obtain ⟨q0, q1, qP, qK, qD, qhE⟩ := q; exact ⟨q0, mvz g mk a q1, mvP g mk a qP, mvK g mk a qK, qD, qhE.mv g mk a⟩, va_recv hK hP (ci := 7) (q := (RX5, TX5, 11)) (q0 := 1) rfl rfl, fun U hU hW => ⟨rfl, by rw [hU], by rw [hU]; exact hPc, va_K.moved hW.alike hKc, hDc.weaken (fun _ _ _ _ => trivial), hE.call hS hU hW (fun q h => hFc q h)⟩⟩ rfl rfl hl.1 rfl (lv_room (Nat.le_of_ble_eq_true rfl)) dX5_readEither_31 ⟨Nat.le_of_ble_eq_true rfl, Nat.le_of_ble_eq_true rfl⟩) hS (fun q _ h => hFc q h) hFc (fun r_23 u tC H1 locs htC hvm hw_24 hB hz1 hk1 hS => ?_)
            obtain ⟨ecd9_25, ep9_26, em9_27, feC9_28⟩ := u
            try dsimp only at hw_24 hB
            obtain ⟨hP1, hK1, hD1⟩ := hB
            rw [htC] at hP1
            have hK1 := va_K.moved hvm.symm hK1
            obtain ⟨hP, hD⟩ := va_join (wr := []) (w1 := [(zo7iirrrririii bl esg (nI ecl) eW eA eE eC (nI ecd9_25) aTp (nI ez) (nI ep9_26) (nI em9_27)), (zaI aTp cTp 100 fTp), (zaI eC ceC 100 feC9_28)]) hP hD [1, 2, 0] [] rfl rfl (by decide) (by decide) hk1 hFc hP1 hD1
            have hK := (hK.sub (tys' := []) [] rfl).app hK1
            generalize H1 = H at hP hS ⊢
            have hP : va_P (dC, dI) vwCl [(zo7iirrrririii bl esg (nI ecl) eW eA eE eC (nI ecd9_25) aTp (nI ez) (nI ep9_26) (nI em9_27)), (zaI aTp cTp 100 fTp), (zaI eC ceC 100 feC9_28)] H := hP
            have hD : va_D A [(zo7iirrrririii bl esg (nI ecl) eW eA eE eC (nI ecd9_25) aTp (nI ez) (nI ep9_26) (nI em9_27)), (zaI aTp cTp 100 fTp), (zaI eC ceC 100 feC9_28)] := hD
            have hK : va_K (dC, dI) vwCl [(cTp, .int), (ceC, .int)] s := hK
            rcases hw_24 with ⟨rfl, L_29, eP_30, h_31, h_32, h_33, h_34, hX_36, hC_35⟩ | ⟨rfl, eP_30, h_31, h_32, h_33, hC_35⟩
            · skip
              refine lv_if_ne (tgt := 39) hx hb dX5_readEither_34 (by decide) (fun _ => ?_) (fun c_37 => absurd c_37 (by decide))
              refine lv_aload_n hx hb dX5_readEither_39 rfl (lv_at hl 0 rfl) ?_
              refine lv_bipush (v := (-3)) hx hb dX5_readEither_40 (by decide) ?_
              have hPc := hP.sub (ws' := [(zo7iirrrririii bl esg (nI ecl) eW eA eE eC (nI ecd9_25) aTp (nI ez) (nI ep9_26) (nI em9_27)), (zaI eC ceC 100 feC9_28)]) [0, 2] rfl
              have hDc := hD.sub (ws' := [(zo7iirrrririii bl esg (nI ecl) eW eA eE eC (nI ecd9_25) aTp (nI ez) (nI ep9_26) (nI em9_27)), (zaI eC ceC 100 feC9_28)]) [0, 2] (by decide) rfl
              have hKc := hK.sub (tys' := [(ceC, .int)]) [1] rfl
              have hFc := va_free (wc := [(zo7iirrrririii bl esg (nI ecl) eW eA eE eC (nI ecd9_25) aTp (nI ez) (nI ep9_26) (nI em9_27)), (zaI eC ceC 100 feC9_28)]) hD hS hA [0, 2] rfl
              refine va_callv (va_runV (As := [.int (-3)]) (rest := []) ⟨hx, hb, hml, hown, hts⟩ (c_xCode l dC dI bl aTp eW eA eE eC ecl ecd9_25 (-3) esg ceC feC9_28 ez ep9_26 em9_27 ((kt ++ L1) ++ L_29) 1803 H.size ((hX_36).mono (by omega)) (by have h6 := (hX_36).1; have h7 := (hX_36).2.1; have h8 := hXT.1; have h9 := hXT.2.1; (try simp only [List.length_append] at h6); omega) (hC_35) (Or.inr (Or.inr (Or.inl rfl))) (by decide)) (cwV 1 hts gX5_readEither_X5_code rfl rfl rfl hd_yX5_code ⟨Nat.le_of_ble_eq_true rfl, Nat.le_of_ble_eq_true rfl⟩) ⟨fun a U g mk q => by obtain ⟨q0, q1, qP, qK, qD⟩ := q; exact ⟨q0, mvz g mk a q1, mvP g mk a qP, mvK g mk a qK, qD⟩, va_recv hK hP (ci := 7) (q := (RX5, TX5, 11)) (q0 := 0) rfl rfl, fun U hU hW => ⟨rfl, by rw [hU], by rw [hU]; exact hPc, va_K.moved hW.alike hKc, hDc.weaken (fun _ _ _ _ => trivial)⟩⟩ rfl rfl hl.1 rfl (lv_room (Nat.le_of_ble_eq_true rfl)) dX5_readEither_42 ⟨Nat.le_of_ble_eq_true rfl, Nat.le_of_ble_eq_true rfl⟩) hS (fun q _ h => hFc q h) hFc (fun u tC H1 locs htC hvm hw_39 hB hz1 hk1 hS => ?_)
              obtain ⟨ecd9_40, feC9_41⟩ := u
              try dsimp only at hw_39 hB
              obtain ⟨hP1, hK1, hD1⟩ := hB
              rw [htC] at hP1
              have hK1 := va_K.moved hvm.symm hK1
              obtain ⟨hP, hD⟩ := va_join (wr := [(zaI aTp cTp 100 fTp)]) (w1 := [(zo7iirrrririii bl esg (nI ecl) eW eA eE eC (nI ecd9_40) aTp (nI ez) (nI ep9_26) (nI em9_27)), (zaI eC ceC 100 feC9_41)]) hP hD [0, 2] [1] rfl rfl (by decide) (by decide) hk1 hFc hP1 hD1
              have hK := (hK.sub (tys' := [(cTp, .int)]) [0] rfl).app hK1
              generalize H1 = H at hP hS ⊢
              have hP : va_P (dC, dI) vwCl [(zaI aTp cTp 100 fTp), (zo7iirrrririii bl esg (nI ecl) eW eA eE eC (nI ecd9_40) aTp (nI ez) (nI ep9_26) (nI em9_27)), (zaI eC ceC 100 feC9_41)] H := hP
              have hD : va_D A [(zaI aTp cTp 100 fTp), (zo7iirrrririii bl esg (nI ecl) eW eA eE eC (nI ecd9_40) aTp (nI ez) (nI ep9_26) (nI em9_27)), (zaI eC ceC 100 feC9_41)] := hD
              have hK : va_K (dC, dI) vwCl [(cTp, .int), (ceC, .int)] s := hK
              obtain ⟨e_42, hC_43, h_44⟩ := hw_39
              obtain rfl := (e_42).symm
              have hX_45 : XT feC9_41 (ecd9_25 + 1) (((kt ++ L1) ++ L_29) ++ [1803]) (ep9_26) := ⟨by rw [List.length_append, (hX_36).1]; rfl, by have h6 := (hX_36).1; have h7 := (hX_36).2.1; have h8 := hXT.1; have h9 := hXT.2.1; (try simp only [List.length_append] at h6); omega, h_44⟩
              refine lv_iinc (v := nI (i + 1)) (lv' := [(2, .int (nI (i + 1))), (0, .ref bl), (1, .int 5)]) hx hb dX5_readEither_45 hl (k := 2) rfl (nI_add i 1) (by decide) rfl (fun ls hl => ?_)
              refine lv_goto (tgt := 12) hx hb dX5_readEither_48 (by decide) ?_
              exact ih12 (i + 1) _ _ _ _ (L1 ++ (L_29 ++ [1803])) (m2) (by omega) (by omega) (⟨hE9.trans (ps_go hy9 eP_30), by omega⟩) (by omega) (by simp only [List.length_append, List.length_cons, List.length_nil]; omega) (XT.as (XT.as (hX_45))) (hC_43) _ _ (hK.sub [0, 1] rfl) (hP.sub [1, 0, 2] rfl) (hD.sub [1, 0, 2] (by decide) rfl) hS ls (lv_sub hl [1, 2, 0] rfl)
            · skip
              refine lv_if_ne (tgt := 39) hx hb dX5_readEither_34 (by decide) (fun c_46 => absurd c_46 (by decide)) (fun _ => ?_)
              refine lv_iconst (v := 0) hx hb dX5_readEither_37 (by decide) ?_
              rw [hQ]
              have hP9 := hP.sub (ws' := [(zo7iirrrririii bl esg (nI ecl) eW eA eE eC (nI ecd9_25) aTp (nI ez) (nI ep9_26) (nI em9_27)), (zaI aTp cTp 100 fTp), (zaI eC ceC 100 feC9_28)]) [0, 1, 2] rfl
              have hD9 := hD.sub (ws' := [(zo7iirrrririii bl esg (nI ecl) eW eA eE eC (nI ecd9_25) aTp (nI ez) (nI ep9_26) (nI em9_27)), (zaI aTp cTp 100 fTp), (zaI eC ceC 100 feC9_28)]) [0, 1, 2] (by decide) rfl
              have hK9 := hK.sub (tys' := [(cTp, .int), (ceC, .int)]) [0, 1] rfl
              exact W.zret (v := 0) hx hb hr rfl (fun tQ htQ hWQ => ⟨⟨0, (ecd9_25, ep9_26, em9_27, feC9_28), rfl, Or.inr ⟨rfl, hE9.trans (ps_bad hy9 eP_30), by omega, by omega, by first | omega | (have := (hXT).2.1; omega), hC_35⟩, by rw [htQ]; exact hP9, va_K.moved hWQ.alike hK9, hD9⟩, hS.F htQ⟩) hS.2.2 dX5_readEither_38
          · skip
            obtain rfl := (e_21).symm
            refine lv_if_eq (tgt := 51) hx hb dX5_readEither_26 (by decide) (fun _ => ?_) (fun c_47 => absurd c_47 (by decide))
            refine lv_iconst (v := 1) hx hb dX5_readEither_51 (by decide) ?_
            rw [hQ]
            have hP9 := hP.sub (ws' := [(zo7iirrrririii bl esg (nI ecl) eW eA eE eC (nI ecd2) aTp (nI ez) (nI ep2) (nI em2)), (zaI aTp cTp 100 fTp), (zaI eC ceC 100 feC2)]) [1, 2, 0] rfl
            have hD9 := hD.sub (ws' := [(zo7iirrrririii bl esg (nI ecl) eW eA eE eC (nI ecd2) aTp (nI ez) (nI ep2) (nI em2)), (zaI aTp cTp 100 fTp), (zaI eC ceC 100 feC2)]) [1, 2, 0] (by decide) rfl
            have hK9 := hK.sub (tys' := [(cTp, .int), (ceC, .int)]) [1, 0] rfl
            exact W.zret (v := 1) hx hb hr rfl (fun tQ htQ hWQ => ⟨⟨1, (ecd2, ep2, em2, feC2), rfl, Or.inl ⟨rfl, L1, hE9.trans (ps_end hn9), by omega, by omega, by omega, by (try simp only [List.length_append, List.length_cons, List.length_nil]); omega, hX2, zC2⟩, by rw [htQ]; exact hP9, va_K.moved hWQ.alike hK9, hD9⟩, hS.F htQ⟩) hS.2.2 dX5_readEither_52
    exact L12 _ (0) _ _ _ _ (L_7) (101) (Nat.lt_succ_self _) (by omega) (⟨pSm_s eP_8, by omega⟩) (by omega) (by omega) (hX_14) (hC_13) _ _ (hK.sub [0, 1] rfl) (hP.sub [0, 1, 2] rfl) (hD.sub [0, 1, 2] (by decide) rfl) hS ls (lv_sub hl [1, 2, 0] rfl)
  · skip
    refine lv_if_ne (tgt := 10) hx hb dX5_readEither_5 (by decide) (fun c_48 => absurd c_48 (by decide)) (fun _ => ?_)
    refine lv_iconst (v := 0) hx hb dX5_readEither_8 (by decide) ?_
    rw [hQ]
    have hP9 := hP.sub (ws' := [(zo7iirrrririii bl esg (nI ecl) eW eA eE eC (nI ecd9_3) aTp (nI ez) (nI ep9_4) (nI em9_5)), (zaI aTp cTp 100 fTp), (zaI eC ceC 100 feC9_6)]) [0, 1, 2] rfl
    have hD9 := hD.sub (ws' := [(zo7iirrrririii bl esg (nI ecl) eW eA eE eC (nI ecd9_3) aTp (nI ez) (nI ep9_4) (nI em9_5)), (zaI aTp cTp 100 fTp), (zaI eC ceC 100 feC9_6)]) [0, 1, 2] (by decide) rfl
    have hK9 := hK.sub (tys' := [(cTp, .int), (ceC, .int)]) [0, 1] rfl
    exact W.zret (v := 0) hx hb hr rfl (fun tQ htQ hWQ => ⟨⟨0, (ecd9_3, ep9_4, em9_5, feC9_6), rfl, Or.inr ⟨rfl, pSm_n eP_8, by omega, by omega, by first | omega | (have := (hXT).2.1; omega), hC_13⟩, by rw [htQ]; exact hP9, va_K.moved hWQ.alike hK9, hD9⟩, hS.F htQ⟩) hS.2.2 dX5_readEither_9
end mg15f
section mg15f
theorem ggX5_readPlain_X5_readPlain : GoodIn wsX5_readPlain wsX5_readPlain := gga_of 454 rfl rfl rfl
theorem gX5_readPlain_X5_readPlain : GoodIn wsX5_readPlain (wsV RX5 106 RX5 yX5_readPlain wsX5_readPlain) := goodIn_app (ggh_of [451, 453, 7, 65] rfl rfl rfl) ggX5_readPlain_X5_readPlain
theorem ggX5_readPlain_X5_code : GoodIn wsX5_readPlain wsX5_code := gga_of 521 rfl rfl rfl
theorem gX5_readPlain_X5_code : GoodIn wsX5_readPlain (wsV RX5 102 RX5 yX5_code wsX5_code) := goodIn_app (ggh_of [518, 520, 9, 65] rfl rfl rfl) ggX5_readPlain_X5_code
theorem ggX5_readPlain_X5_readEither : GoodIn wsX5_readPlain wsX5_readEither := gga_of 446 rfl rfl rfl
theorem gX5_readPlain_X5_readEither : GoodIn wsX5_readPlain (wsV RX5 55 RX5 yX5_readEither wsX5_readEither) := goodIn_app (ggh_of [443, 445, 5, 65] rfl rfl rfl) ggX5_readPlain_X5_readEither
theorem ggX5_readPlain_X5_readSign : GoodIn wsX5_readPlain wsX5_readSign := gga_of 442 rfl rfl rfl
theorem gX5_readPlain_X5_readSign : GoodIn wsX5_readPlain (wsV RX5 51 RX5 yX5_readSign wsX5_readSign) := goodIn_app (ggh_of [439, 441, 4, 65] rfl rfl rfl) ggX5_readPlain_X5_readSign
noncomputable def dk15glev_cX5_readPlain_0 : List (Nat × List Nat) := [(29, [42]), (30, [89]), (31, [180, 0, 34]), (34, [4]), (35, [96]), (36, [181, 0, 34]), (39, [28]), (40, [16, 40]), (42, [160, 0, 28]), (45, [42]), (46, [27]), (47, [4]), (48, [96]), (49, [182, 0, 55]), (52, [153, 0, 16]), (55, [42]), (56, [16, 41]), (58, [182, 0, 51]), (61, [153, 0, 7]), (64, [4]), (65, [167, 0, 4]), (68, [3]), (69, [172]), (70, [42]), (71, [27]), (72, [4]), (73, [96]), (74, [182, 0, 106]), (77, [154, 0, 5]), (80, [3]), (81, [172]), (82, [42]), (83, [2]), (84, [182, 0, 102]), (87, [4]), (88, [172])]
set_option maxRecDepth 100000 in
theorem dk15glev_cX5_readPlain_0_a : btA cX5_readPlain dk15glev_cX5_readPlain_0 = true := by decide +kernel
theorem dX5_readPlain_29 : decode cX5_readPlain 29 = .ok (.aload_n 0, 1) := bd42 (btAt dk15glev_cX5_readPlain_0_a 0 rfl)
theorem dX5_readPlain_30 : decode cX5_readPlain 30 = .ok (.dup, 1) := bd89 (btAt dk15glev_cX5_readPlain_0_a 1 rfl)
theorem dX5_readPlain_31 : decode cX5_readPlain 31 = .ok (.getfield 34, 3) := bd180 (a := 0) (b := 34) (btAt dk15glev_cX5_readPlain_0_a 2 rfl)
theorem dX5_readPlain_34 : decode cX5_readPlain 34 = .ok (.iconst 1, 1) := bd4 (btAt dk15glev_cX5_readPlain_0_a 3 rfl)
theorem dX5_readPlain_35 : decode cX5_readPlain 35 = .ok (.iadd, 1) := bd96 (btAt dk15glev_cX5_readPlain_0_a 4 rfl)
theorem dX5_readPlain_36 : decode cX5_readPlain 36 = .ok (.putfield 34, 3) := bd181 (a := 0) (b := 34) (btAt dk15glev_cX5_readPlain_0_a 5 rfl)
theorem dX5_readPlain_39 : decode cX5_readPlain 39 = .ok (.iload_n 2, 1) := bd28 (btAt dk15glev_cX5_readPlain_0_a 6 rfl)
theorem dX5_readPlain_40 : decode cX5_readPlain 40 = .ok (.bipush 40, 2) := bd16 (a := 40) (btAt dk15glev_cX5_readPlain_0_a 7 rfl)
theorem dX5_readPlain_42 : decode cX5_readPlain 42 = .ok (.if_icmp .ne 28, 3) := bd160 (a := 0) (b := 28) (btAt dk15glev_cX5_readPlain_0_a 8 rfl)
theorem dX5_readPlain_45 : decode cX5_readPlain 45 = .ok (.aload_n 0, 1) := bd42 (btAt dk15glev_cX5_readPlain_0_a 9 rfl)
theorem dX5_readPlain_46 : decode cX5_readPlain 46 = .ok (.iload_n 1, 1) := bd27 (btAt dk15glev_cX5_readPlain_0_a 10 rfl)
theorem dX5_readPlain_47 : decode cX5_readPlain 47 = .ok (.iconst 1, 1) := bd4 (btAt dk15glev_cX5_readPlain_0_a 11 rfl)
theorem dX5_readPlain_48 : decode cX5_readPlain 48 = .ok (.iadd, 1) := bd96 (btAt dk15glev_cX5_readPlain_0_a 12 rfl)
theorem dX5_readPlain_49 : decode cX5_readPlain 49 = .ok (.invokevirtual 55, 3) := bd182 (a := 0) (b := 55) (btAt dk15glev_cX5_readPlain_0_a 13 rfl)
theorem dX5_readPlain_52 : decode cX5_readPlain 52 = .ok (.ifCond .eq 16, 3) := bd153 (a := 0) (b := 16) (btAt dk15glev_cX5_readPlain_0_a 14 rfl)
theorem dX5_readPlain_55 : decode cX5_readPlain 55 = .ok (.aload_n 0, 1) := bd42 (btAt dk15glev_cX5_readPlain_0_a 15 rfl)
theorem dX5_readPlain_56 : decode cX5_readPlain 56 = .ok (.bipush 41, 2) := bd16 (a := 41) (btAt dk15glev_cX5_readPlain_0_a 16 rfl)
theorem dX5_readPlain_58 : decode cX5_readPlain 58 = .ok (.invokevirtual 51, 3) := bd182 (a := 0) (b := 51) (btAt dk15glev_cX5_readPlain_0_a 17 rfl)
theorem dX5_readPlain_61 : decode cX5_readPlain 61 = .ok (.ifCond .eq 7, 3) := bd153 (a := 0) (b := 7) (btAt dk15glev_cX5_readPlain_0_a 18 rfl)
theorem dX5_readPlain_64 : decode cX5_readPlain 64 = .ok (.iconst 1, 1) := bd4 (btAt dk15glev_cX5_readPlain_0_a 19 rfl)
theorem dX5_readPlain_65 : decode cX5_readPlain 65 = .ok (.goto 4, 3) := bd167 (a := 0) (b := 4) (btAt dk15glev_cX5_readPlain_0_a 20 rfl)
theorem dX5_readPlain_68 : decode cX5_readPlain 68 = .ok (.iconst 0, 1) := bd3 (btAt dk15glev_cX5_readPlain_0_a 21 rfl)
theorem dX5_readPlain_69 : decode cX5_readPlain 69 = .ok (.ireturn, 1) := bd172 (btAt dk15glev_cX5_readPlain_0_a 22 rfl)
theorem dX5_readPlain_70 : decode cX5_readPlain 70 = .ok (.aload_n 0, 1) := bd42 (btAt dk15glev_cX5_readPlain_0_a 23 rfl)
theorem dX5_readPlain_71 : decode cX5_readPlain 71 = .ok (.iload_n 1, 1) := bd27 (btAt dk15glev_cX5_readPlain_0_a 24 rfl)
theorem dX5_readPlain_72 : decode cX5_readPlain 72 = .ok (.iconst 1, 1) := bd4 (btAt dk15glev_cX5_readPlain_0_a 25 rfl)
theorem dX5_readPlain_73 : decode cX5_readPlain 73 = .ok (.iadd, 1) := bd96 (btAt dk15glev_cX5_readPlain_0_a 26 rfl)
theorem dX5_readPlain_74 : decode cX5_readPlain 74 = .ok (.invokevirtual 106, 3) := bd182 (a := 0) (b := 106) (btAt dk15glev_cX5_readPlain_0_a 27 rfl)
theorem dX5_readPlain_77 : decode cX5_readPlain 77 = .ok (.ifCond .ne 5, 3) := bd154 (a := 0) (b := 5) (btAt dk15glev_cX5_readPlain_0_a 28 rfl)
theorem dX5_readPlain_80 : decode cX5_readPlain 80 = .ok (.iconst 0, 1) := bd3 (btAt dk15glev_cX5_readPlain_0_a 29 rfl)
theorem dX5_readPlain_81 : decode cX5_readPlain 81 = .ok (.ireturn, 1) := bd172 (btAt dk15glev_cX5_readPlain_0_a 30 rfl)
theorem dX5_readPlain_82 : decode cX5_readPlain 82 = .ok (.aload_n 0, 1) := bd42 (btAt dk15glev_cX5_readPlain_0_a 31 rfl)
theorem dX5_readPlain_83 : decode cX5_readPlain 83 = .ok (.iconst (-1), 1) := bd2 (btAt dk15glev_cX5_readPlain_0_a 32 rfl)
theorem dX5_readPlain_84 : decode cX5_readPlain 84 = .ok (.invokevirtual 102, 3) := bd182 (a := 0) (b := 102) (btAt dk15glev_cX5_readPlain_0_a 33 rfl)
theorem dX5_readPlain_87 : decode cX5_readPlain 87 = .ok (.iconst 1, 1) := bd4 (btAt dk15glev_cX5_readPlain_0_a 34 rfl)
theorem dX5_readPlain_88 : decode cX5_readPlain 88 = .ok (.ireturn, 1) := bd172 (btAt dk15glev_cX5_readPlain_0_a 35 rfl)
theorem kc_xPlain4_0 : ∀ w ∈ wsX50, w ∈ wsX5_readPlain := fun w h => List.mem_cons_of_mem _ (gin_wsX50 w h)
theorem kc_xPlain4_1 : (.fieldLink RX5 34 "MistHeaps$Hill" "at" "I" : Cond) ∈ wsX5_readPlain := kc_of 124 rfl rfl rfl
set_option maxHeartbeats 4000000 in
set_option maxRecDepth 100000 in
theorem c_xPlain4 (l : Launch) (dC : Nat → ClassId) (dI : Nat → Nat → Nat) (sK sV : Nat → Nat) (bl : Nat) (aTp : Nat) (eW : Nat) (eA : Nat) (eE : Nat) (eC : Nat) (ecl : Nat) (ecd : Nat) (esg : Int32) (cTp : ClassId) (ceC : ClassId) (fTp : Nat → Int32) (feC : Nat → Int32) (ez : Nat) (ep : Nat) (em : Nat) (ss : Nat → Nat) (kt : List Nat) (sz : Nat) (hez : ez ≤ 100) (hep : ep ≤ ez) (hem : em ≤ 99) (hXT : XT feC ecd kt ep) (zeC : ∀ k0, k0 < 100 → okC (feC k0)) (gX : TX fTp ez ss) : Met l yX5_readPlain wsX5_readPlain ({ frames := 8, cells := 0, slots := 0, locals := 179 } : Room) (va_Pc [.ref bl, .int 4] (fun U => U.heap.size = sz ∧ va_P (dC, dI) vwCl [(zo7iirrrririii bl esg (nI ecl) eW eA eE eC (nI ecd) aTp (nI ez) (nI ep) (nI em)), (zaI aTp cTp 100 fTp), (zaI eC ceC 100 feC)] U.heap ∧ va_K (dC, dI) vwCl [(cTp, .int), (ceC, .int)] U ∧ va_D (fun _ => True) [(zo7iirrrririii bl esg (nI ecl) eW eA eE eC (nI ecd) aTp (nI ez) (nI ep) (nI em)), (zaI aTp cTp 100 fTp), (zaI eC ceC 100 feC)] ∧ Gs sK sV (va_A [(zo7iirrrririii bl esg (nI ecl) eW eA eE eC (nI ecd) aTp (nI ez) (nI ep) (nI em)), (zaI aTp cTp 100 fTp), (zaI eC ceC 100 feC)] sz) U)) (va_Qi (fun (r : Int32) (u : (Nat) × (Nat) × (Nat) × (Nat → Int32)) => match u with | (ecd9, ep9, em9, feC9) => (r = 1 ∧ ∃ L0 : List Nat, pFac ss 1 ep = (some L0, ep9) ∧ ep + 3 ≤ ep9 ∧ ep9 ≤ ez ∧ em9 ≤ 99 ∧ L0.length + ep ≤ ep9 ∧ XT feC9 ecd9 (kt ++ L0) ep9 ∧ ∀ k0, k0 < 100 → okC (feC9 k0)) ∨ (r = 0 ∧ pFac ss 1 ep = (none, ep9) ∧ ep9 ≤ ez + 2 ∧ em9 ≤ 99 ∧ ecd9 ≤ 100 ∧ ∀ k0, k0 < 100 → okC (feC9 k0))) (fun (u : (Nat) × (Nat) × (Nat) × (Nat → Int32)) (t : State) => match u with | (ecd9, ep9, em9, feC9) => va_P (dC, dI) vwCl [(zo7iirrrririii bl esg (nI ecl) eW eA eE eC (nI ecd9) aTp (nI ez) (nI ep9) (nI em9)), (zaI aTp cTp 100 fTp), (zaI eC ceC 100 feC9)] t.heap ∧ va_K (dC, dI) vwCl [(cTp, .int), (ceC, .int)] t ∧ va_D (va_A [(zo7iirrrririii bl esg (nI ecl) eW eA eE eC (nI ecd) aTp (nI ez) (nI ep) (nI em)), (zaI aTp cTp 100 fTp), (zaI eC ceC 100 feC)] sz) [(zo7iirrrririii bl esg (nI ecl) eW eA eE eC (nI ecd9) aTp (nI ez) (nI ep9) (nI em9)), (zaI aTp cTp 100 fTp), (zaI eC ceC 100 feC9)]) (va_A [(zo7iirrrririii bl esg (nI ecl) eW eA eE eC (nI ecd) aTp (nI ez) (nI ep) (nI em)), (zaI aTp cTp 100 fTp), (zaI eC ceC 100 feC)] sz)) 0 0 (va_A [(zo7iirrrririii bl esg (nI ecl) eW eA eE eC (nI ecd) aTp (nI ez) (nI ep) (nI em)), (zaI aTp cTp 100 fTp), (zaI eC ceC 100 feC)] sz) := by
  refine met_ofQ (cc := cX5_readPlain) (maxL := 3) (ret := (some .boolean)) (by decide) rfl ?_
  intro p e s m args below meth c s₁ Q B hml hv hQ
  obtain ⟨rfl, hsz, hP, hK, hD0, hE⟩ := hv
  have hx := B.exec
  have hb := B.bytes
  have hr := B.returns
  have hts := atoms_spec (ws := wsX5_readPlain) B.pre
  have hown : s.vm.findClass RX5 = some m.cls := findClass_of_methodNamed B.named
  have hlocks := B.notSynchronized
  subst hsz
  have hD := hD0.self (sz := s.heap.size)
  generalize hAe : va_A [(zo7iirrrririii bl esg (nI ecl) eW eA eE eC (nI ecd) aTp (nI ez) (nI ep) (nI em)), (zaI aTp cTp 100 fTp), (zaI eC ceC 100 feC)] s.heap.size = A at hD hQ hE ⊢
  have hA : ∀ q : Nat, s.heap.size ≤ q → A q := fun q h => by rw [← hAe]; exact Or.inr h
  have hS : va_S A s.heap s.heap [] := va_S.rf
  have hl := lv_entry [.ref bl, .int 4] (n := 3) (Nat.le_of_ble_eq_true rfl)
  rw [lg_entry_eq]
  generalize (lg_sl [.ref bl, .int 4] ++ List.replicate (3 - (lg_sl [.ref bl, .int 4]).length) Slot.unset).toArray = ls at hl ⊢
  generalize hag : ([.ref bl, .int 4] : List Value).toArray = args at hts hQ ⊢
  have hl : lv_has ls 3 [(0, .ref bl), (1, .int 4)] := hl
  obtain ⟨H, hH⟩ : ∃ H : Heap, H = s.heap := ⟨_, rfl⟩
  rw [← hH] at hP
  rw [← hH]
  have hS : va_S A s.heap H [] := by rw [hH]; exact hS
  obtain ⟨locs, hlo⟩ : ∃ L : List Loc, L = [] := ⟨_, rfl⟩
  rw [← hlo] at hS
  rw [← hlo]
  clear hH hlo
  refine lv_aload_n hx hb dX5_readPlain_0 rfl (lv_at hl 0 rfl) ?_
  have hPc := hP.sub (ws' := [(zo7iirrrririii bl esg (nI ecl) eW eA eE eC (nI ecd) aTp (nI ez) (nI ep) (nI em)), (zaI aTp cTp 100 fTp)]) [0, 1] rfl
  have hKc := hK.sub (tys' := [(cTp, .int)]) [0] rfl
  refine vp_callSi (va_runV (As := []) (rest := []) ⟨hx, hb, hml, hown, hts⟩ (c_xSign l dC dI bl aTp eW eA eE eC ecl ecd esg cTp fTp ez ep em ss (hez) (by omega) (gX)) (cwV 0 hts gX5_readPlain_X5_sign rfl rfl rfl hd_yX5_sign ⟨Nat.le_of_ble_eq_true rfl, Nat.le_of_ble_eq_true rfl⟩) ⟨fun a U g mk q => by obtain ⟨q0, qP, qK⟩ := q; exact ⟨q0, mvP g mk a qP, mvK g mk a qK⟩, va_recv hK hP (ci := 7) (q := (RX5, TX5, 11)) (q0 := 0) rfl rfl, fun U hU hW => ⟨rfl, by rw [hU]; exact hPc, va_K.moved hW.alike hKc⟩⟩ rfl rfl hl.1 rfl (lv_room (Nat.le_of_ble_eq_true rfl)) dX5_readPlain_1 ⟨Nat.le_of_ble_eq_true rfl, Nat.le_of_ble_eq_true rfl⟩).run (fun r_1 hw_2 => ?_)
  obtain rfl := hw_2
  have hs8 := gX.2.2 (ep)
  refine lv_istore_n (lv' := [(2, .int (nI (ss ep))), (0, .ref bl), (1, .int 4)]) hx hb dX5_readPlain_4 rfl hl (by decide) rfl (fun ls hl => ?_)
  refine lv_iload_n hx hb dX5_readPlain_5 rfl (lv_at hl 0 rfl) ?_
  refine lv_bipush (v := 33) hx hb dX5_readPlain_6 (by decide) ?_
  refine lv_icmp_eq (tgt := 22) hx hb dX5_readPlain_8 (by decide) (fun c_3 => ?_) (fun c_3 => ?_)
  · skip
    have c_3 : (ss ep) = 33 := (nI_eq (a := (ss ep)) (b := 33) (by omega) (by omega)).mp c_3
    have hc : ss ep = 33 := c_3
    have hlt : ep < ez := Nat.lt_of_not_le (fun z => by have := gX.2.1 ep z; omega)
    refine lv_iload_n hx hb dX5_readPlain_22 rfl (lv_at hl 2 rfl) ?_
    refine lv_iconst (v := 5) hx hb dX5_readPlain_23 (by decide) ?_
    refine lv_icmp_lt (tgt := 29) hx hb dX5_readPlain_24 (by decide) (fun _ => ?_) (fun c_4 => absurd c_4 (by decide))
    refine lv_aload_n hx hb dX5_readPlain_29 rfl (lv_at hl 1 rfl) ?_
    refine lv_dup hx hb dX5_readPlain_30 rfl ?_
    refine va_get (D := (dC, dI)) (ci := 7) (v := .int (nI ep)) (C := RX5) (T := TX5) (N := 11) hx hb hts kc_xPlain4_0 hown hK hP 0 rfl rfl 9 (by decide) (hts (.fieldLink RX5 34 "MistHeaps$Hill" "at" "I") kc_xPlain4_1) (fun _ h9 => h9) rfl dX5_readPlain_31 ?_
    refine lv_iconst (v := 1) hx hb dX5_readPlain_34 (by decide) ?_
    refine lv_iadd hx hb dX5_readPlain_35 ?_
    refine qi_as (y := nI (ep + 1)) (nI_add ep 1) ?_
    refine va_put (D := (dC, dI)) (ci := 7) (v := .int (nI (ep + 1))) (ty := .int) (C := RX5) (T := TX5) (N := 11) hx hb hts kc_xPlain4_0 tyX5 tyX5_ok nmX5 hown hK hP hD hS 0 rfl rfl 9 (by decide) (hts (.fieldLink RX5 34 "MistHeaps$Hill" "at" "I") kc_xPlain4_1) (fun _ h9 => h9) rfl (by decide +kernel) rfl rfl (Nat.le_of_ble_eq_true rfl) dX5_readPlain_36 (fun H locs hP hD hS => ?_)
    have hP : va_P (dC, dI) vwCl [(zo7iirrrririii bl esg (nI ecl) eW eA eE eC (nI ecd) aTp (nI ez) (nI (ep + 1)) (nI em)), (zaI aTp cTp 100 fTp), (zaI eC ceC 100 feC)] H := hP
    have hD : va_D A [(zo7iirrrririii bl esg (nI ecl) eW eA eE eC (nI ecd) aTp (nI ez) (nI (ep + 1)) (nI em)), (zaI aTp cTp 100 fTp), (zaI eC ceC 100 feC)] := hD
    refine lv_iload_n hx hb dX5_readPlain_39 rfl (lv_at hl 0 rfl) ?_
    refine lv_bipush (v := 40) hx hb dX5_readPlain_40 (by decide) ?_
    refine lv_icmp_ne (tgt := 70) hx hb dX5_readPlain_42 (by decide) (fun c_5 => ?_) (fun c_5 => absurd c_5 (fun z9 => absurd ((nI_eq (a := ss ep) (b := 40) (by omega) (by omega)).mp z9) (by omega)))
    have c_5 : ¬ (ss ep) = 40 := fun q => c_5 ((nI_eq (a := (ss ep)) (b := 40) (by omega) (by omega)).mpr q)
    refine lv_aload_n hx hb dX5_readPlain_70 rfl (lv_at hl 1 rfl) ?_
    refine lv_iload_n hx hb dX5_readPlain_71 rfl (lv_at hl 2 rfl) ?_
    refine lv_iconst (v := 1) hx hb dX5_readPlain_72 (by decide) ?_
    refine lv_iadd hx hb dX5_readPlain_73 ?_
    refine qi_as (y := 5) (by decide) ?_
    have hPc := hP.sub (ws' := [(zo7iirrrririii bl esg (nI ecl) eW eA eE eC (nI ecd) aTp (nI ez) (nI (ep + 1)) (nI em)), (zaI aTp cTp 100 fTp), (zaI eC ceC 100 feC)]) [0, 1, 2] rfl
    have hDc := hD.sub (ws' := [(zo7iirrrririii bl esg (nI ecl) eW eA eE eC (nI ecd) aTp (nI ez) (nI (ep + 1)) (nI em)), (zaI aTp cTp 100 fTp), (zaI eC ceC 100 feC)]) [0, 1, 2] (by decide) rfl
    have hKc := hK.sub (tys' := [(cTp, .int), (ceC, .int)]) [0, 1] rfl
    have hFc := va_free (wc := [(zo7iirrrririii bl esg (nI ecl) eW eA eE eC (nI ecd) aTp (nI ez) (nI (ep + 1)) (nI em)), (zaI aTp cTp 100 fTp), (zaI eC ceC 100 feC)]) hD hS hA [0, 1, 2] rfl
    refine va_calli (va_runV (As := [.int 5]) (rest := []) ⟨hx, hb, hml, hown, hts⟩ (c_xPlain5 l dC dI sK sV bl aTp eW eA eE eC ecl ecd esg cTp ceC fTp feC ez (ep + 1) em ss kt H.size (hez) (by omega) (by omega) ((hXT).mono (by omega)) (zeC) (gX)) (cwV 1 hts gX5_readPlain_X5_readPlain rfl rfl rfl hd_yX5_readPlain ⟨Nat.le_of_ble_eq_true rfl, Nat.le_of_ble_eq_true rfl⟩) ⟨fun a U g mk q => by obtain ⟨q0, q1, qP, qK, qD, qhE⟩ := q; exact ⟨q0, mvz g mk a q1, mvP g mk a qP, mvK g mk a qK, qD, qhE.mv g mk a⟩, va_recv hK hP (ci := 7) (q := (RX5, TX5, 11)) (q0 := 0) rfl rfl, fun U hU hW => ⟨rfl, by rw [hU], by rw [hU]; exact hPc, va_K.moved hW.alike hKc, hDc.weaken (fun _ _ _ _ => trivial), hE.call hS hU hW (fun q h => hFc q h)⟩⟩ rfl rfl hl.1 rfl (lv_room (Nat.le_of_ble_eq_true rfl)) dX5_readPlain_74 ⟨Nat.le_of_ble_eq_true rfl, Nat.le_of_ble_eq_true rfl⟩) hS (fun q _ h => hFc q h) hFc (fun r_6 u tC H1 locs htC hvm hw_7 hB hz1 hk1 hS => ?_)
    obtain ⟨ecd9_8, ep9_9, em9_10, feC9_11⟩ := u
    try dsimp only at hw_7 hB
    obtain ⟨hP1, hK1, hD1⟩ := hB
    rw [htC] at hP1
    have hK1 := va_K.moved hvm.symm hK1
    obtain ⟨hP, hD⟩ := va_join (wr := []) (w1 := [(zo7iirrrririii bl esg (nI ecl) eW eA eE eC (nI ecd9_8) aTp (nI ez) (nI ep9_9) (nI em9_10)), (zaI aTp cTp 100 fTp), (zaI eC ceC 100 feC9_11)]) hP hD [0, 1, 2] [] rfl rfl (by decide) (by decide) hk1 hFc hP1 hD1
    have hK := (hK.sub (tys' := []) [] rfl).app hK1
    generalize H1 = H at hP hS ⊢
    have hP : va_P (dC, dI) vwCl [(zo7iirrrririii bl esg (nI ecl) eW eA eE eC (nI ecd9_8) aTp (nI ez) (nI ep9_9) (nI em9_10)), (zaI aTp cTp 100 fTp), (zaI eC ceC 100 feC9_11)] H := hP
    have hD : va_D A [(zo7iirrrririii bl esg (nI ecl) eW eA eE eC (nI ecd9_8) aTp (nI ez) (nI ep9_9) (nI em9_10)), (zaI aTp cTp 100 fTp), (zaI eC ceC 100 feC9_11)] := hD
    have hK : va_K (dC, dI) vwCl [(cTp, .int), (ceC, .int)] s := hK
    rcases hw_7 with ⟨rfl, L_12, eP_13, h_14, h_15, h_16, h_17, hX_19, hC_18⟩ | ⟨rfl, eP_13, h_14, h_15, h_16, hC_18⟩
    · skip
      refine lv_if_ne (tgt := 82) hx hb dX5_readPlain_77 (by decide) (fun _ => ?_) (fun c_20 => absurd c_20 (by decide))
      refine lv_aload_n hx hb dX5_readPlain_82 rfl (lv_at hl 1 rfl) ?_
      refine lv_iconst (v := (-1)) hx hb dX5_readPlain_83 (by decide) ?_
      have hPc := hP.sub (ws' := [(zo7iirrrririii bl esg (nI ecl) eW eA eE eC (nI ecd9_8) aTp (nI ez) (nI ep9_9) (nI em9_10)), (zaI eC ceC 100 feC9_11)]) [0, 2] rfl
      have hDc := hD.sub (ws' := [(zo7iirrrririii bl esg (nI ecl) eW eA eE eC (nI ecd9_8) aTp (nI ez) (nI ep9_9) (nI em9_10)), (zaI eC ceC 100 feC9_11)]) [0, 2] (by decide) rfl
      have hKc := hK.sub (tys' := [(ceC, .int)]) [1] rfl
      have hFc := va_free (wc := [(zo7iirrrririii bl esg (nI ecl) eW eA eE eC (nI ecd9_8) aTp (nI ez) (nI ep9_9) (nI em9_10)), (zaI eC ceC 100 feC9_11)]) hD hS hA [0, 2] rfl
      refine va_callv (va_runV (As := [.int (-1)]) (rest := []) ⟨hx, hb, hml, hown, hts⟩ (c_xCode l dC dI bl aTp eW eA eE eC ecl ecd9_8 (-1) esg ceC feC9_11 ez ep9_9 em9_10 (kt ++ L_12) 1801 H.size ((hX_19).mono (by omega)) (by have h6 := (hX_19).1; have h7 := (hX_19).2.1; have h8 := hXT.1; have h9 := hXT.2.1; (try simp only [List.length_append] at h6); omega) (hC_18) (Or.inl rfl) (by decide)) (cwV 1 hts gX5_readPlain_X5_code rfl rfl rfl hd_yX5_code ⟨Nat.le_of_ble_eq_true rfl, Nat.le_of_ble_eq_true rfl⟩) ⟨fun a U g mk q => by obtain ⟨q0, q1, qP, qK, qD⟩ := q; exact ⟨q0, mvz g mk a q1, mvP g mk a qP, mvK g mk a qK, qD⟩, va_recv hK hP (ci := 7) (q := (RX5, TX5, 11)) (q0 := 0) rfl rfl, fun U hU hW => ⟨rfl, by rw [hU], by rw [hU]; exact hPc, va_K.moved hW.alike hKc, hDc.weaken (fun _ _ _ _ => trivial)⟩⟩ rfl rfl hl.1 rfl (lv_room (Nat.le_of_ble_eq_true rfl)) dX5_readPlain_84 ⟨Nat.le_of_ble_eq_true rfl, Nat.le_of_ble_eq_true rfl⟩) hS (fun q _ h => hFc q h) hFc (fun u tC H1 locs htC hvm hw_22 hB hz1 hk1 hS => ?_)
      obtain ⟨ecd9_23, feC9_24⟩ := u
      try dsimp only at hw_22 hB
      obtain ⟨hP1, hK1, hD1⟩ := hB
      rw [htC] at hP1
      have hK1 := va_K.moved hvm.symm hK1
      obtain ⟨hP, hD⟩ := va_join (wr := [(zaI aTp cTp 100 fTp)]) (w1 := [(zo7iirrrririii bl esg (nI ecl) eW eA eE eC (nI ecd9_23) aTp (nI ez) (nI ep9_9) (nI em9_10)), (zaI eC ceC 100 feC9_24)]) hP hD [0, 2] [1] rfl rfl (by decide) (by decide) hk1 hFc hP1 hD1
      have hK := (hK.sub (tys' := [(cTp, .int)]) [0] rfl).app hK1
      generalize H1 = H at hP hS ⊢
      have hP : va_P (dC, dI) vwCl [(zaI aTp cTp 100 fTp), (zo7iirrrririii bl esg (nI ecl) eW eA eE eC (nI ecd9_23) aTp (nI ez) (nI ep9_9) (nI em9_10)), (zaI eC ceC 100 feC9_24)] H := hP
      have hD : va_D A [(zaI aTp cTp 100 fTp), (zo7iirrrririii bl esg (nI ecl) eW eA eE eC (nI ecd9_23) aTp (nI ez) (nI ep9_9) (nI em9_10)), (zaI eC ceC 100 feC9_24)] := hD
      have hK : va_K (dC, dI) vwCl [(cTp, .int), (ceC, .int)] s := hK
      obtain ⟨e_25, hC_26, h_27⟩ := hw_22
      obtain rfl := (e_25).symm
      have hX_28 : XT feC9_24 (ecd9_8 + 1) ((kt ++ L_12) ++ [1801]) (ep9_9) := ⟨by rw [List.length_append, (hX_19).1]; rfl, by have h6 := (hX_19).1; have h7 := (hX_19).2.1; have h8 := hXT.1; have h9 := hXT.2.1; (try simp only [List.length_append] at h6); omega, h_27⟩
      refine lv_iconst (v := 1) hx hb dX5_readPlain_87 (by decide) ?_
      rw [hQ]
      have hP9 := hP.sub (ws' := [(zo7iirrrririii bl esg (nI ecl) eW eA eE eC (nI (ecd9_8 + 1)) aTp (nI ez) (nI ep9_9) (nI em9_10)), (zaI aTp cTp 100 fTp), (zaI eC ceC 100 feC9_24)]) [1, 0, 2] rfl
      have hD9 := hD.sub (ws' := [(zo7iirrrririii bl esg (nI ecl) eW eA eE eC (nI (ecd9_8 + 1)) aTp (nI ez) (nI ep9_9) (nI em9_10)), (zaI aTp cTp 100 fTp), (zaI eC ceC 100 feC9_24)]) [1, 0, 2] (by decide) rfl
      have hK9 := hK.sub (tys' := [(cTp, .int), (ceC, .int)]) [0, 1] rfl
      exact W.zret (v := 1) hx hb hr rfl (fun tQ htQ hWQ => ⟨⟨1, ((ecd9_8 + 1), ep9_9, em9_10, feC9_24), rfl, Or.inl ⟨rfl, (L_12 ++ [1801]), pf_n1 (l := 0) hc eP_13, by omega, by omega, by omega, by (try simp only [List.length_append, List.length_cons, List.length_nil]); omega, XT.as ((hX_28).mono (by omega)), hC_26⟩, by rw [htQ]; exact hP9, va_K.moved hWQ.alike hK9, hD9⟩, hS.F htQ⟩) hS.2.2 dX5_readPlain_88
    · skip
      refine lv_if_ne (tgt := 82) hx hb dX5_readPlain_77 (by decide) (fun c_29 => absurd c_29 (by decide)) (fun _ => ?_)
      refine lv_iconst (v := 0) hx hb dX5_readPlain_80 (by decide) ?_
      rw [hQ]
      have hP9 := hP.sub (ws' := [(zo7iirrrririii bl esg (nI ecl) eW eA eE eC (nI ecd9_8) aTp (nI ez) (nI ep9_9) (nI em9_10)), (zaI aTp cTp 100 fTp), (zaI eC ceC 100 feC9_11)]) [0, 1, 2] rfl
      have hD9 := hD.sub (ws' := [(zo7iirrrririii bl esg (nI ecl) eW eA eE eC (nI ecd9_8) aTp (nI ez) (nI ep9_9) (nI em9_10)), (zaI aTp cTp 100 fTp), (zaI eC ceC 100 feC9_11)]) [0, 1, 2] (by decide) rfl
      have hK9 := hK.sub (tys' := [(cTp, .int), (ceC, .int)]) [0, 1] rfl
      exact W.zret (v := 0) hx hb hr rfl (fun tQ htQ hWQ => ⟨⟨0, (ecd9_8, ep9_9, em9_10, feC9_11), rfl, Or.inr ⟨rfl, pf_n0 (l := 0) hc eP_13, by omega, by omega, by first | omega | (have := (hXT).2.1; omega), hC_18⟩, by rw [htQ]; exact hP9, va_K.moved hWQ.alike hK9, hD9⟩, hS.F htQ⟩) hS.2.2 dX5_readPlain_81
  · skip
    have c_3 : ¬ (ss ep) = 33 := fun q => c_3 ((nI_eq (a := (ss ep)) (b := 33) (by omega) (by omega)).mpr q)
    have hn33 : ¬ ss ep = 33 := c_3
    refine lv_iload_n hx hb dX5_readPlain_11 rfl (lv_at hl 0 rfl) ?_
    refine lv_bipush (v := 40) hx hb dX5_readPlain_12 (by decide) ?_
    refine lv_icmp_eq (tgt := 22) hx hb dX5_readPlain_14 (by decide) (fun c_30 => ?_) (fun c_30 => ?_)
    · skip
      have c_30 : (ss ep) = 40 := (nI_eq (a := (ss ep)) (b := 40) (by omega) (by omega)).mp c_30
      have hc : ss ep = 40 := c_30
      have hlt : ep < ez := Nat.lt_of_not_le (fun z => by have := gX.2.1 ep z; omega)
      refine lv_iload_n hx hb dX5_readPlain_22 rfl (lv_at hl 2 rfl) ?_
      refine lv_iconst (v := 5) hx hb dX5_readPlain_23 (by decide) ?_
      refine lv_icmp_lt (tgt := 29) hx hb dX5_readPlain_24 (by decide) (fun _ => ?_) (fun c_31 => absurd c_31 (by decide))
      refine lv_aload_n hx hb dX5_readPlain_29 rfl (lv_at hl 1 rfl) ?_
      refine lv_dup hx hb dX5_readPlain_30 rfl ?_
      refine va_get (D := (dC, dI)) (ci := 7) (v := .int (nI ep)) (C := RX5) (T := TX5) (N := 11) hx hb hts kc_xPlain4_0 hown hK hP 0 rfl rfl 9 (by decide) (hts (.fieldLink RX5 34 "MistHeaps$Hill" "at" "I") kc_xPlain4_1) (fun _ h9 => h9) rfl dX5_readPlain_31 ?_
      refine lv_iconst (v := 1) hx hb dX5_readPlain_34 (by decide) ?_
      refine lv_iadd hx hb dX5_readPlain_35 ?_
      refine qi_as (y := nI (ep + 1)) (nI_add ep 1) ?_
      refine va_put (D := (dC, dI)) (ci := 7) (v := .int (nI (ep + 1))) (ty := .int) (C := RX5) (T := TX5) (N := 11) hx hb hts kc_xPlain4_0 tyX5 tyX5_ok nmX5 hown hK hP hD hS 0 rfl rfl 9 (by decide) (hts (.fieldLink RX5 34 "MistHeaps$Hill" "at" "I") kc_xPlain4_1) (fun _ h9 => h9) rfl (by decide +kernel) rfl rfl (Nat.le_of_ble_eq_true rfl) dX5_readPlain_36 (fun H locs hP hD hS => ?_)
      have hP : va_P (dC, dI) vwCl [(zo7iirrrririii bl esg (nI ecl) eW eA eE eC (nI ecd) aTp (nI ez) (nI (ep + 1)) (nI em)), (zaI aTp cTp 100 fTp), (zaI eC ceC 100 feC)] H := hP
      have hD : va_D A [(zo7iirrrririii bl esg (nI ecl) eW eA eE eC (nI ecd) aTp (nI ez) (nI (ep + 1)) (nI em)), (zaI aTp cTp 100 fTp), (zaI eC ceC 100 feC)] := hD
      refine lv_iload_n hx hb dX5_readPlain_39 rfl (lv_at hl 0 rfl) ?_
      refine lv_bipush (v := 40) hx hb dX5_readPlain_40 (by decide) ?_
      refine lv_icmp_ne (tgt := 70) hx hb dX5_readPlain_42 (by decide) (fun c_32 => absurd c_32 (fun z9 => z9 ((nI_eq (a := ss ep) (b := 40) (by omega) (by omega)).mpr hc))) (fun c_32 => ?_)
      have c_32 : (ss ep) = 40 := (nI_eq (a := (ss ep)) (b := 40) (by omega) (by omega)).mp c_32
      refine lv_aload_n hx hb dX5_readPlain_45 rfl (lv_at hl 1 rfl) ?_
      refine lv_iload_n hx hb dX5_readPlain_46 rfl (lv_at hl 2 rfl) ?_
      refine lv_iconst (v := 1) hx hb dX5_readPlain_47 (by decide) ?_
      refine lv_iadd hx hb dX5_readPlain_48 ?_
      refine qi_as (y := 5) (by decide) ?_
      have hPc := hP.sub (ws' := [(zo7iirrrririii bl esg (nI ecl) eW eA eE eC (nI ecd) aTp (nI ez) (nI (ep + 1)) (nI em)), (zaI aTp cTp 100 fTp), (zaI eC ceC 100 feC)]) [0, 1, 2] rfl
      have hDc := hD.sub (ws' := [(zo7iirrrririii bl esg (nI ecl) eW eA eE eC (nI ecd) aTp (nI ez) (nI (ep + 1)) (nI em)), (zaI aTp cTp 100 fTp), (zaI eC ceC 100 feC)]) [0, 1, 2] (by decide) rfl
      have hKc := hK.sub (tys' := [(cTp, .int), (ceC, .int)]) [0, 1] rfl
      have hFc := va_free (wc := [(zo7iirrrririii bl esg (nI ecl) eW eA eE eC (nI ecd) aTp (nI ez) (nI (ep + 1)) (nI em)), (zaI aTp cTp 100 fTp), (zaI eC ceC 100 feC)]) hD hS hA [0, 1, 2] rfl
      refine va_calli (va_runV (As := [.int 5]) (rest := []) ⟨hx, hb, hml, hown, hts⟩ (c_xEither5 l dC dI sK sV bl aTp eW eA eE eC ecl ecd esg cTp ceC fTp feC ez (ep + 1) em ss kt H.size (hez) (by omega) (by omega) ((hXT).mono (by omega)) (zeC) (gX)) (cwV 1 hts gX5_readPlain_X5_readEither rfl rfl rfl hd_yX5_readEither ⟨Nat.le_of_ble_eq_true rfl, Nat.le_of_ble_eq_true rfl⟩) ⟨fun a U g mk q => by obtain ⟨q0, q1, qP, qK, qD, qhE⟩ := q; exact ⟨q0, mvz g mk a q1, mvP g mk a qP, mvK g mk a qK, qD, qhE.mv g mk a⟩, va_recv hK hP (ci := 7) (q := (RX5, TX5, 11)) (q0 := 0) rfl rfl, fun U hU hW => ⟨rfl, by rw [hU], by rw [hU]; exact hPc, va_K.moved hW.alike hKc, hDc.weaken (fun _ _ _ _ => trivial), hE.call hS hU hW (fun q h => hFc q h)⟩⟩ rfl rfl hl.1 rfl (lv_room (Nat.le_of_ble_eq_true rfl)) dX5_readPlain_49 ⟨Nat.le_of_ble_eq_true rfl, Nat.le_of_ble_eq_true rfl⟩) hS (fun q _ h => hFc q h) hFc (fun r_33 u tC H1 locs htC hvm hw_34 hB hz1 hk1 hS => ?_)
      obtain ⟨ecd9_35, ep9_36, em9_37, feC9_38⟩ := u
      try dsimp only at hw_34 hB
      obtain ⟨hP1, hK1, hD1⟩ := hB
      rw [htC] at hP1
      have hK1 := va_K.moved hvm.symm hK1
      obtain ⟨hP, hD⟩ := va_join (wr := []) (w1 := [(zo7iirrrririii bl esg (nI ecl) eW eA eE eC (nI ecd9_35) aTp (nI ez) (nI ep9_36) (nI em9_37)), (zaI aTp cTp 100 fTp), (zaI eC ceC 100 feC9_38)]) hP hD [0, 1, 2] [] rfl rfl (by decide) (by decide) hk1 hFc hP1 hD1
      have hK := (hK.sub (tys' := []) [] rfl).app hK1
      generalize H1 = H at hP hS ⊢
      have hP : va_P (dC, dI) vwCl [(zo7iirrrririii bl esg (nI ecl) eW eA eE eC (nI ecd9_35) aTp (nI ez) (nI ep9_36) (nI em9_37)), (zaI aTp cTp 100 fTp), (zaI eC ceC 100 feC9_38)] H := hP
      have hD : va_D A [(zo7iirrrririii bl esg (nI ecl) eW eA eE eC (nI ecd9_35) aTp (nI ez) (nI ep9_36) (nI em9_37)), (zaI aTp cTp 100 fTp), (zaI eC ceC 100 feC9_38)] := hD
      have hK : va_K (dC, dI) vwCl [(cTp, .int), (ceC, .int)] s := hK
      rcases hw_34 with ⟨rfl, L_39, eP_40, h_41, h_42, h_43, h_44, hX_46, hC_45⟩ | ⟨rfl, eP_40, h_41, h_42, h_43, hC_45⟩
      · skip
        refine lv_if_eq (tgt := 68) hx hb dX5_readPlain_52 (by decide) (fun c_47 => absurd c_47 (by decide)) (fun _ => ?_)
        refine lv_aload_n hx hb dX5_readPlain_55 rfl (lv_at hl 1 rfl) ?_
        refine lv_bipush (v := 41) hx hb dX5_readPlain_56 (by decide) ?_
        have hPc := hP.sub (ws' := [(zo7iirrrririii bl esg (nI ecl) eW eA eE eC (nI ecd9_35) aTp (nI ez) (nI ep9_36) (nI em9_37)), (zaI aTp cTp 100 fTp)]) [0, 1] rfl
        have hDc := hD.sub (ws' := [(zo7iirrrririii bl esg (nI ecl) eW eA eE eC (nI ecd9_35) aTp (nI ez) (nI ep9_36) (nI em9_37)), (zaI aTp cTp 100 fTp)]) [0, 1] (by decide) rfl
        have hKc := hK.sub (tys' := [(cTp, .int)]) [0] rfl
        have hFc := va_free (wc := [(zo7iirrrririii bl esg (nI ecl) eW eA eE eC (nI ecd9_35) aTp (nI ez) (nI ep9_36) (nI em9_37)), (zaI aTp cTp 100 fTp)]) hD hS hA [0, 1] rfl
        refine va_calli (va_runV (As := [.int 41]) (rest := []) ⟨hx, hb, hml, hown, hts⟩ (c_xReadSign l dC dI bl aTp eW eA eE eC 41 ecl ecd9_35 esg cTp fTp ez ep9_36 em9_37 ss H.size (hez) (by omega) (by decide) (by decide) (gX)) (cwV 1 hts gX5_readPlain_X5_readSign rfl rfl rfl hd_yX5_readSign ⟨Nat.le_of_ble_eq_true rfl, Nat.le_of_ble_eq_true rfl⟩) ⟨fun a U g mk q => by obtain ⟨q0, q1, qP, qK, qD⟩ := q; exact ⟨q0, mvz g mk a q1, mvP g mk a qP, mvK g mk a qK, qD⟩, va_recv hK hP (ci := 7) (q := (RX5, TX5, 11)) (q0 := 0) rfl rfl, fun U hU hW => ⟨rfl, by rw [hU], by rw [hU]; exact hPc, va_K.moved hW.alike hKc, hDc.weaken (fun _ _ _ _ => trivial)⟩⟩ rfl rfl hl.1 rfl (lv_room (Nat.le_of_ble_eq_true rfl)) dX5_readPlain_58 ⟨Nat.le_of_ble_eq_true rfl, Nat.le_of_ble_eq_true rfl⟩) hS (fun q _ h => hFc q h) hFc (fun r_48 u tC H1 locs htC hvm hw_49 hB hz1 hk1 hS => ?_)
        obtain ⟨ep9_50, rfl⟩ : ∃ z, z = u := ⟨_, rfl⟩
        try dsimp only at hw_49 hB
        obtain ⟨hP1, hK1, hD1⟩ := hB
        rw [htC] at hP1
        have hK1 := va_K.moved hvm.symm hK1
        obtain ⟨hP, hD⟩ := va_join (wr := [(zaI eC ceC 100 feC9_38)]) (w1 := [(zo7iirrrririii bl esg (nI ecl) eW eA eE eC (nI ecd9_35) aTp (nI ez) (nI ep9_50) (nI em9_37)), (zaI aTp cTp 100 fTp)]) hP hD [0, 1] [2] rfl rfl (by decide) (by decide) hk1 hFc hP1 hD1
        have hK := (hK.sub (tys' := [(ceC, .int)]) [1] rfl).app hK1
        generalize H1 = H at hP hS ⊢
        have hP : va_P (dC, dI) vwCl [(zaI eC ceC 100 feC9_38), (zo7iirrrririii bl esg (nI ecl) eW eA eE eC (nI ecd9_35) aTp (nI ez) (nI ep9_50) (nI em9_37)), (zaI aTp cTp 100 fTp)] H := hP
        have hD : va_D A [(zaI eC ceC 100 feC9_38), (zo7iirrrririii bl esg (nI ecl) eW eA eE eC (nI ecd9_35) aTp (nI ez) (nI ep9_50) (nI em9_37)), (zaI aTp cTp 100 fTp)] := hD
        have hK : va_K (dC, dI) vwCl [(ceC, .int), (cTp, .int)] s := hK
        rcases hw_49 with ⟨rfl, hy41, h_51, e_52⟩ | ⟨rfl, hn41, e_52⟩
        · skip
          obtain rfl := (e_52).symm
          refine lv_if_eq (tgt := 68) hx hb dX5_readPlain_61 (by decide) (fun c_53 => absurd c_53 (by decide)) (fun _ => ?_)
          refine lv_iconst (v := 1) hx hb dX5_readPlain_64 (by decide) ?_
          refine lv_goto (tgt := 69) hx hb dX5_readPlain_65 (by decide) ?_
          rw [hQ]
          have hP9 := hP.sub (ws' := [(zo7iirrrririii bl esg (nI ecl) eW eA eE eC (nI ecd9_35) aTp (nI ez) (nI (ep9_36 + 1)) (nI em9_37)), (zaI aTp cTp 100 fTp), (zaI eC ceC 100 feC9_38)]) [1, 2, 0] rfl
          have hD9 := hD.sub (ws' := [(zo7iirrrririii bl esg (nI ecl) eW eA eE eC (nI ecd9_35) aTp (nI ez) (nI (ep9_36 + 1)) (nI em9_37)), (zaI aTp cTp 100 fTp), (zaI eC ceC 100 feC9_38)]) [1, 2, 0] (by decide) rfl
          have hK9 := hK.sub (tys' := [(cTp, .int), (ceC, .int)]) [1, 0] rfl
          exact W.zret (v := 1) hx hb hr rfl (fun tQ htQ hWQ => ⟨⟨1, (ecd9_35, (ep9_36 + 1), em9_37, feC9_38), rfl, Or.inl ⟨rfl, L_39, pf_b2 (l := 0) hc eP_40 hy41, by omega, by omega, by omega, by (try simp only [List.length_append, List.length_cons, List.length_nil]); omega, (hX_46).mono (by omega), hC_45⟩, by rw [htQ]; exact hP9, va_K.moved hWQ.alike hK9, hD9⟩, hS.F htQ⟩) hS.2.2 dX5_readPlain_69
        · skip
          obtain rfl := (e_52).symm
          refine lv_if_eq (tgt := 68) hx hb dX5_readPlain_61 (by decide) (fun _ => ?_) (fun c_54 => absurd c_54 (by decide))
          refine lv_iconst (v := 0) hx hb dX5_readPlain_68 (by decide) ?_
          rw [hQ]
          have hP9 := hP.sub (ws' := [(zo7iirrrririii bl esg (nI ecl) eW eA eE eC (nI ecd9_35) aTp (nI ez) (nI ep9_36) (nI em9_37)), (zaI aTp cTp 100 fTp), (zaI eC ceC 100 feC9_38)]) [1, 2, 0] rfl
          have hD9 := hD.sub (ws' := [(zo7iirrrririii bl esg (nI ecl) eW eA eE eC (nI ecd9_35) aTp (nI ez) (nI ep9_36) (nI em9_37)), (zaI aTp cTp 100 fTp), (zaI eC ceC 100 feC9_38)]) [1, 2, 0] (by decide) rfl
          have hK9 := hK.sub (tys' := [(cTp, .int), (ceC, .int)]) [1, 0] rfl
          exact W.zret (v := 0) hx hb hr rfl (fun tQ htQ hWQ => ⟨⟨0, (ecd9_35, ep9_36, em9_37, feC9_38), rfl, Or.inr ⟨rfl, pf_b1 (l := 0) hc eP_40 hn41, by omega, by omega, by first | omega | (have := (hX_46).2.1; omega), hC_45⟩, by rw [htQ]; exact hP9, va_K.moved hWQ.alike hK9, hD9⟩, hS.F htQ⟩) hS.2.2 dX5_readPlain_69
      · skip
        refine lv_if_eq (tgt := 68) hx hb dX5_readPlain_52 (by decide) (fun _ => ?_) (fun c_55 => absurd c_55 (by decide))
        refine lv_iconst (v := 0) hx hb dX5_readPlain_68 (by decide) ?_
        rw [hQ]
        have hP9 := hP.sub (ws' := [(zo7iirrrririii bl esg (nI ecl) eW eA eE eC (nI ecd9_35) aTp (nI ez) (nI ep9_36) (nI em9_37)), (zaI aTp cTp 100 fTp), (zaI eC ceC 100 feC9_38)]) [0, 1, 2] rfl
        have hD9 := hD.sub (ws' := [(zo7iirrrririii bl esg (nI ecl) eW eA eE eC (nI ecd9_35) aTp (nI ez) (nI ep9_36) (nI em9_37)), (zaI aTp cTp 100 fTp), (zaI eC ceC 100 feC9_38)]) [0, 1, 2] (by decide) rfl
        have hK9 := hK.sub (tys' := [(cTp, .int), (ceC, .int)]) [0, 1] rfl
        exact W.zret (v := 0) hx hb hr rfl (fun tQ htQ hWQ => ⟨⟨0, (ecd9_35, ep9_36, em9_37, feC9_38), rfl, Or.inr ⟨rfl, pf_b0 (l := 0) hc eP_40, by omega, by omega, by first | omega | (have := (hXT).2.1; omega), hC_45⟩, by rw [htQ]; exact hP9, va_K.moved hWQ.alike hK9, hD9⟩, hS.F htQ⟩) hS.2.2 dX5_readPlain_69
    · skip
      have c_30 : ¬ (ss ep) = 40 := fun q => c_30 ((nI_eq (a := (ss ep)) (b := 40) (by omega) (by omega)).mpr q)
      have hn40 : ¬ ss ep = 40 := c_30
      refine lv_aload_n hx hb dX5_readPlain_17 rfl (lv_at hl 1 rfl) ?_
      have hPc := hP.sub (ws' := [(zo7iirrrririii bl esg (nI ecl) eW eA eE eC (nI ecd) aTp (nI ez) (nI ep) (nI em)), (zaI aTp cTp 100 fTp), (zaI eC ceC 100 feC)]) [0, 1, 2] rfl
      have hDc := hD.sub (ws' := [(zo7iirrrririii bl esg (nI ecl) eW eA eE eC (nI ecd) aTp (nI ez) (nI ep) (nI em)), (zaI aTp cTp 100 fTp), (zaI eC ceC 100 feC)]) [0, 1, 2] (by decide) rfl
      have hKc := hK.sub (tys' := [(cTp, .int), (ceC, .int)]) [0, 1] rfl
      have hFc := va_free (wc := [(zo7iirrrririii bl esg (nI ecl) eW eA eE eC (nI ecd) aTp (nI ez) (nI ep) (nI em)), (zaI aTp cTp 100 fTp), (zaI eC ceC 100 feC)]) hD hS hA [0, 1, 2] rfl
      refine va_calli (va_runV (As := []) (rest := []) ⟨hx, hb, hml, hown, hts⟩ (c_readTest l dC dI sK sV bl aTp eW eA eE eC ecl ecd esg cTp ceC fTp feC ez ep em ss kt H.size (hez) (by omega) (by omega) ((hXT).mono (by omega)) (zeC) (gX)) (cwV 0 hts gX5_readPlain_X5_readTest rfl rfl rfl hd_yX5_readTest ⟨Nat.le_of_ble_eq_true rfl, Nat.le_of_ble_eq_true rfl⟩) ⟨fun a U g mk q => by obtain ⟨q0, q1, qP, qK, qD, qhE⟩ := q; exact ⟨q0, mvz g mk a q1, mvP g mk a qP, mvK g mk a qK, qD, qhE.mv g mk a⟩, va_recv hK hP (ci := 7) (q := (RX5, TX5, 11)) (q0 := 0) rfl rfl, fun U hU hW => ⟨rfl, by rw [hU], by rw [hU]; exact hPc, va_K.moved hW.alike hKc, hDc.weaken (fun _ _ _ _ => trivial), hE.call hS hU hW (fun q h => hFc q h)⟩⟩ rfl rfl hl.1 rfl (lv_room (Nat.le_of_ble_eq_true rfl)) dX5_readPlain_18 ⟨Nat.le_of_ble_eq_true rfl, Nat.le_of_ble_eq_true rfl⟩) hS (fun q _ h => hFc q h) hFc (fun r_56 u tC H1 locs htC hvm hw_57 hB hz1 hk1 hS => ?_)
      obtain ⟨ecd9_58, ep9_59, em9_60, feC9_61⟩ := u
      try dsimp only at hw_57 hB
      obtain ⟨hP1, hK1, hD1⟩ := hB
      rw [htC] at hP1
      have hK1 := va_K.moved hvm.symm hK1
      obtain ⟨hP, hD⟩ := va_join (wr := []) (w1 := [(zo7iirrrririii bl esg (nI ecl) eW eA eE eC (nI ecd9_58) aTp (nI ez) (nI ep9_59) (nI em9_60)), (zaI aTp cTp 100 fTp), (zaI eC ceC 100 feC9_61)]) hP hD [0, 1, 2] [] rfl rfl (by decide) (by decide) hk1 hFc hP1 hD1
      have hK := (hK.sub (tys' := []) [] rfl).app hK1
      generalize H1 = H at hP hS ⊢
      have hP : va_P (dC, dI) vwCl [(zo7iirrrririii bl esg (nI ecl) eW eA eE eC (nI ecd9_58) aTp (nI ez) (nI ep9_59) (nI em9_60)), (zaI aTp cTp 100 fTp), (zaI eC ceC 100 feC9_61)] H := hP
      have hD : va_D A [(zo7iirrrririii bl esg (nI ecl) eW eA eE eC (nI ecd9_58) aTp (nI ez) (nI ep9_59) (nI em9_60)), (zaI aTp cTp 100 fTp), (zaI eC ceC 100 feC9_61)] := hD
      have hK : va_K (dC, dI) vwCl [(cTp, .int), (ceC, .int)] s := hK
      rw [hQ]
      have hP9 := hP.sub (ws' := [(zo7iirrrririii bl esg (nI ecl) eW eA eE eC (nI ecd9_58) aTp (nI ez) (nI ep9_59) (nI em9_60)), (zaI aTp cTp 100 fTp), (zaI eC ceC 100 feC9_61)]) [0, 1, 2] rfl
      have hD9 := hD.sub (ws' := [(zo7iirrrririii bl esg (nI ecl) eW eA eE eC (nI ecd9_58) aTp (nI ez) (nI ep9_59) (nI em9_60)), (zaI aTp cTp 100 fTp), (zaI eC ceC 100 feC9_61)]) [0, 1, 2] (by decide) rfl
      have hK9 := hK.sub (tys' := [(cTp, .int), (ceC, .int)]) [0, 1] rfl
      exact W.zret (v := r_56) hx hb hr (by first | rfl | (rcases hw_57 with ⟨e9, _⟩ | ⟨e9, _⟩ <;> rw [e9] <;> rfl)) (fun tQ htQ hWQ => ⟨⟨r_56, (ecd9_58, ep9_59, em9_60, feC9_61), rfl, by rw [show pFac ss 1 ep = pTest ss ep from pf_t hn33 hn40]; exact hw_57, by rw [htQ]; exact hP9, va_K.moved hWQ.alike hK9, hD9⟩, hS.F htQ⟩) hS.2.2 dX5_readPlain_21

theorem kc_xBoth4_0 : ∀ w ∈ wsX50, w ∈ wsX5_readBoth := fun w h => List.mem_cons_of_mem _ (gin_wsX50 w h)
theorem kc_xBoth4_1 : (.fieldLink RX5 31 "MistHeaps$Hill" "size" "I" : Cond) ∈ wsX5_readBoth := kc_of 123 rfl rfl rfl
set_option maxHeartbeats 4000000 in
set_option maxRecDepth 100000 in
theorem c_xBoth4 (l : Launch) (dC : Nat → ClassId) (dI : Nat → Nat → Nat) (sK sV : Nat → Nat) (bl : Nat) (aTp : Nat) (eW : Nat) (eA : Nat) (eE : Nat) (eC : Nat) (ecl : Nat) (ecd : Nat) (esg : Int32) (cTp : ClassId) (ceC : ClassId) (fTp : Nat → Int32) (feC : Nat → Int32) (ez : Nat) (ep : Nat) (em : Nat) (ss : Nat → Nat) (kt : List Nat) (sz : Nat) (hez : ez ≤ 100) (hep : ep ≤ ez) (hem : em ≤ 99) (hXT : XT feC ecd kt ep) (zeC : ∀ k0, k0 < 100 → okC (feC k0)) (gX : TX fTp ez ss) : Met l yX5_readBoth wsX5_readBoth ({ frames := 9, cells := 0, slots := 0, locals := 201 } : Room) (va_Pc [.ref bl, .int 4] (fun U => U.heap.size = sz ∧ va_P (dC, dI) vwCl [(zo7iirrrririii bl esg (nI ecl) eW eA eE eC (nI ecd) aTp (nI ez) (nI ep) (nI em)), (zaI aTp cTp 100 fTp), (zaI eC ceC 100 feC)] U.heap ∧ va_K (dC, dI) vwCl [(cTp, .int), (ceC, .int)] U ∧ va_D (fun _ => True) [(zo7iirrrririii bl esg (nI ecl) eW eA eE eC (nI ecd) aTp (nI ez) (nI ep) (nI em)), (zaI aTp cTp 100 fTp), (zaI eC ceC 100 feC)] ∧ Gs sK sV (va_A [(zo7iirrrririii bl esg (nI ecl) eW eA eE eC (nI ecd) aTp (nI ez) (nI ep) (nI em)), (zaI aTp cTp 100 fTp), (zaI eC ceC 100 feC)] sz) U)) (va_Qi (fun (r : Int32) (u : (Nat) × (Nat) × (Nat) × (Nat → Int32)) => match u with | (ecd9, ep9, em9, feC9) => (r = 1 ∧ ∃ L0 : List Nat, pEv ss (pFac ss 1) ep = (some L0, ep9) ∧ ep + 3 ≤ ep9 ∧ ep9 ≤ ez ∧ em9 ≤ 99 ∧ L0.length + ep ≤ ep9 ∧ XT feC9 ecd9 (kt ++ L0) ep9 ∧ ∀ k0, k0 < 100 → okC (feC9 k0)) ∨ (r = 0 ∧ pEv ss (pFac ss 1) ep = (none, ep9) ∧ ep9 ≤ ez + 2 ∧ em9 ≤ 99 ∧ ecd9 ≤ 100 ∧ ∀ k0, k0 < 100 → okC (feC9 k0))) (fun (u : (Nat) × (Nat) × (Nat) × (Nat → Int32)) (t : State) => match u with | (ecd9, ep9, em9, feC9) => va_P (dC, dI) vwCl [(zo7iirrrririii bl esg (nI ecl) eW eA eE eC (nI ecd9) aTp (nI ez) (nI ep9) (nI em9)), (zaI aTp cTp 100 fTp), (zaI eC ceC 100 feC9)] t.heap ∧ va_K (dC, dI) vwCl [(cTp, .int), (ceC, .int)] t ∧ va_D (va_A [(zo7iirrrririii bl esg (nI ecl) eW eA eE eC (nI ecd) aTp (nI ez) (nI ep) (nI em)), (zaI aTp cTp 100 fTp), (zaI eC ceC 100 feC)] sz) [(zo7iirrrririii bl esg (nI ecl) eW eA eE eC (nI ecd9) aTp (nI ez) (nI ep9) (nI em9)), (zaI aTp cTp 100 fTp), (zaI eC ceC 100 feC9)]) (va_A [(zo7iirrrririii bl esg (nI ecl) eW eA eE eC (nI ecd) aTp (nI ez) (nI ep) (nI em)), (zaI aTp cTp 100 fTp), (zaI eC ceC 100 feC)] sz)) 0 0 (va_A [(zo7iirrrririii bl esg (nI ecl) eW eA eE eC (nI ecd) aTp (nI ez) (nI ep) (nI em)), (zaI aTp cTp 100 fTp), (zaI eC ceC 100 feC)] sz) := by
  refine met_ofQ (cc := cX5_readBoth) (maxL := 3) (ret := (some .boolean)) (by decide) rfl ?_
  intro p e s m args below meth c s₁ Q B hml hv hQ
  obtain ⟨rfl, hsz, hP, hK, hD0, hE⟩ := hv
  have hx := B.exec
  have hb := B.bytes
  have hr := B.returns
  have hts := atoms_spec (ws := wsX5_readBoth) B.pre
  have hown : s.vm.findClass RX5 = some m.cls := findClass_of_methodNamed B.named
  have hlocks := B.notSynchronized
  subst hsz
  have hD := hD0.self (sz := s.heap.size)
  generalize hAe : va_A [(zo7iirrrririii bl esg (nI ecl) eW eA eE eC (nI ecd) aTp (nI ez) (nI ep) (nI em)), (zaI aTp cTp 100 fTp), (zaI eC ceC 100 feC)] s.heap.size = A at hD hQ hE ⊢
  have hA : ∀ q : Nat, s.heap.size ≤ q → A q := fun q h => by rw [← hAe]; exact Or.inr h
  have hS : va_S A s.heap s.heap [] := va_S.rf
  have hl := lv_entry [.ref bl, .int 4] (n := 3) (Nat.le_of_ble_eq_true rfl)
  rw [lg_entry_eq]
  generalize (lg_sl [.ref bl, .int 4] ++ List.replicate (3 - (lg_sl [.ref bl, .int 4]).length) Slot.unset).toArray = ls at hl ⊢
  generalize hag : ([.ref bl, .int 4] : List Value).toArray = args at hts hQ ⊢
  have hl : lv_has ls 3 [(0, .ref bl), (1, .int 4)] := hl
  obtain ⟨H, hH⟩ : ∃ H : Heap, H = s.heap := ⟨_, rfl⟩
  rw [← hH] at hP
  rw [← hH]
  have hS : va_S A s.heap H [] := by rw [hH]; exact hS
  obtain ⟨locs, hlo⟩ : ∃ L : List Loc, L = [] := ⟨_, rfl⟩
  rw [← hlo] at hS
  rw [← hlo]
  clear hH hlo
  refine lv_aload_n hx hb dX5_readBoth_0 rfl (lv_at hl 0 rfl) ?_
  refine lv_iload_n hx hb dX5_readBoth_1 rfl (lv_at hl 1 rfl) ?_
  have hPc := hP.sub (ws' := [(zo7iirrrririii bl esg (nI ecl) eW eA eE eC (nI ecd) aTp (nI ez) (nI ep) (nI em)), (zaI aTp cTp 100 fTp), (zaI eC ceC 100 feC)]) [0, 1, 2] rfl
  have hDc := hD.sub (ws' := [(zo7iirrrririii bl esg (nI ecl) eW eA eE eC (nI ecd) aTp (nI ez) (nI ep) (nI em)), (zaI aTp cTp 100 fTp), (zaI eC ceC 100 feC)]) [0, 1, 2] (by decide) rfl
  have hKc := hK.sub (tys' := [(cTp, .int), (ceC, .int)]) [0, 1] rfl
  have hFc := va_free (wc := [(zo7iirrrririii bl esg (nI ecl) eW eA eE eC (nI ecd) aTp (nI ez) (nI ep) (nI em)), (zaI aTp cTp 100 fTp), (zaI eC ceC 100 feC)]) hD hS hA [0, 1, 2] rfl
  refine va_calli (va_runV (As := [.int 4]) (rest := []) ⟨hx, hb, hml, hown, hts⟩ (c_xPlain4 l dC dI sK sV bl aTp eW eA eE eC ecl ecd esg cTp ceC fTp feC ez ep em ss kt H.size (hez) (by omega) (by omega) ((hXT).mono (by omega)) (zeC) (gX)) (cwV 1 hts gX5_readBoth_X5_readPlain rfl rfl rfl hd_yX5_readPlain ⟨Nat.le_of_ble_eq_true rfl, Nat.le_of_ble_eq_true rfl⟩) ⟨fun a U g mk q => by obtain ⟨q0, q1, qP, qK, qD, qhE⟩ := q; exact ⟨q0, mvz g mk a q1, mvP g mk a qP, mvK g mk a qK, qD, qhE.mv g mk a⟩, va_recv hK hP (ci := 7) (q := (RX5, TX5, 11)) (q0 := 0) rfl rfl, fun U hU hW => ⟨rfl, by rw [hU], by rw [hU]; exact hPc, va_K.moved hW.alike hKc, hDc.weaken (fun _ _ _ _ => trivial), hE.call hS hU hW (fun q h => hFc q h)⟩⟩ rfl rfl hl.1 rfl (lv_room (Nat.le_of_ble_eq_true rfl)) dX5_readBoth_2 ⟨Nat.le_of_ble_eq_true rfl, Nat.le_of_ble_eq_true rfl⟩) hS (fun q _ h => hFc q h) hFc (fun r_1 u tC H1 locs htC hvm hw_2 hB hz1 hk1 hS => ?_)
  obtain ⟨ecd9_3, ep9_4, em9_5, feC9_6⟩ := u
  try dsimp only at hw_2 hB
  obtain ⟨hP1, hK1, hD1⟩ := hB
  rw [htC] at hP1
  have hK1 := va_K.moved hvm.symm hK1
  obtain ⟨hP, hD⟩ := va_join (wr := []) (w1 := [(zo7iirrrririii bl esg (nI ecl) eW eA eE eC (nI ecd9_3) aTp (nI ez) (nI ep9_4) (nI em9_5)), (zaI aTp cTp 100 fTp), (zaI eC ceC 100 feC9_6)]) hP hD [0, 1, 2] [] rfl rfl (by decide) (by decide) hk1 hFc hP1 hD1
  have hK := (hK.sub (tys' := []) [] rfl).app hK1
  generalize H1 = H at hP hS ⊢
  have hP : va_P (dC, dI) vwCl [(zo7iirrrririii bl esg (nI ecl) eW eA eE eC (nI ecd9_3) aTp (nI ez) (nI ep9_4) (nI em9_5)), (zaI aTp cTp 100 fTp), (zaI eC ceC 100 feC9_6)] H := hP
  have hD : va_D A [(zo7iirrrririii bl esg (nI ecl) eW eA eE eC (nI ecd9_3) aTp (nI ez) (nI ep9_4) (nI em9_5)), (zaI aTp cTp 100 fTp), (zaI eC ceC 100 feC9_6)] := hD
  have hK : va_K (dC, dI) vwCl [(cTp, .int), (ceC, .int)] s := hK
  rcases hw_2 with ⟨rfl, L_7, eP_8, h_9, h_10, h_11, h_12, hX_14, hC_13⟩ | ⟨rfl, eP_8, h_9, h_10, h_11, hC_13⟩
  · skip
    refine lv_if_ne (tgt := 10) hx hb dX5_readBoth_5 (by decide) (fun _ => ?_) (fun c_15 => absurd c_15 (by decide))
    refine lv_iconst (v := 0) hx hb dX5_readBoth_10 (by decide) ?_
    refine lv_istore_n (lv' := [(2, .int 0), (0, .ref bl), (1, .int 4)]) hx hb dX5_readBoth_11 rfl hl (by decide) rfl (fun ls hl => ?_)
    have L12 : ∀ (nF : Nat) (i : Nat) (ecd2 : Nat) (ep2 : Nat) (em2 : Nat) (feC2 : Nat → Int32) (L1 : List Nat) (m1 : Nat), ez - i < nF → (i ≤ ez) → (pEv ss (pFac ss 1) ep = pSep ss 38 1802 (pFac ss 1) m1 (some L1, ep2) ∧ 101 ≤ m1 + ep2) → (ep + 3 + 2 * i ≤ ep2 ∧ ep2 ≤ ez ∧ em2 ≤ 99) → (L1.length + ep ≤ ep2) → (XT feC2 ecd2 (kt ++ L1) ep2) → (∀ k0, k0 < 100 → okC (feC2 k0)) → ∀ (H : Heap) (locs : List Loc), va_K (dC, dI) vwCl [(cTp, .int), (ceC, .int)] s → va_P (dC, dI) vwCl [(zo7iirrrririii bl esg (nI ecl) eW eA eE eC (nI ecd2) aTp (nI ez) (nI ep2) (nI em2)), (zaI aTp cTp 100 fTp), (zaI eC ceC 100 feC2)] H → va_D A [(zo7iirrrririii bl esg (nI ecl) eW eA eE eC (nI ecd2) aTp (nI ez) (nI ep2) (nI em2)), (zaI aTp cTp 100 fTp), (zaI eC ceC 100 feC2)] → va_S A s.heap H locs → ∀ (ls : Array Slot), lv_has ls 3 [(0, .ref bl), (1, .int 4), (2, .int (nI i))] → W p l e ({ frames := 9, cells := 0, slots := 0, locals := 201 } : Room) s m args below meth c H locs 0 0 Q (F0 m 12 ls []) := by
      intro nF
      induction nF with
      | zero => intro i ecd2 ep2 em2 feC2 L1 m1 hm; exact absurd hm (Nat.not_lt_zero _)
      | succ nF ih12 =>
        intro i ecd2 ep2 em2 feC2 L1 m1 hm hii hE9 hp2 hL2 hX2 zC2 H locs hK hP hD hS ls hl
        obtain ⟨hE9, hm9⟩ := hE9
        obtain ⟨hp2a, hp2b, hp2c⟩ := hp2
        refine lv_iload_n hx hb dX5_readBoth_12 rfl (lv_at hl 2 rfl) ?_
        refine lv_aload_n hx hb dX5_readBoth_13 rfl (lv_at hl 0 rfl) ?_
        refine va_get (D := (dC, dI)) (ci := 7) (v := .int (nI ez)) (C := RX5) (T := TX5) (N := 11) hx hb hts kc_xBoth4_0 hown hK hP 0 rfl rfl 8 (by decide) (hts (.fieldLink RX5 31 "MistHeaps$Hill" "size" "I") kc_xBoth4_1) (fun _ h9 => h9) rfl dX5_readBoth_14 ?_
        refine lv_icmp_ge (tgt := 51) hx hb dX5_readBoth_17 (by decide) (fun c_16 => ?_) (fun c_16 => ?_)
        · skip
          have c_16 : ez ≤ i := (nI_leI (a := ez) (b := i) (by omega) (by omega)).mp c_16
          refine lv_iconst (v := 1) hx hb dX5_readBoth_51 (by decide) ?_
          rw [hQ]
          have hP9 := hP.sub (ws' := [(zo7iirrrririii bl esg (nI ecl) eW eA eE eC (nI ecd2) aTp (nI ez) (nI ep2) (nI em2)), (zaI aTp cTp 100 fTp), (zaI eC ceC 100 feC2)]) [0, 1, 2] rfl
          have hD9 := hD.sub (ws' := [(zo7iirrrririii bl esg (nI ecl) eW eA eE eC (nI ecd2) aTp (nI ez) (nI ep2) (nI em2)), (zaI aTp cTp 100 fTp), (zaI eC ceC 100 feC2)]) [0, 1, 2] (by decide) rfl
          have hK9 := hK.sub (tys' := [(cTp, .int), (ceC, .int)]) [0, 1] rfl
          exact W.zret (v := 1) hx hb hr rfl (fun tQ htQ hWQ => ⟨⟨1, (ecd2, ep2, em2, feC2), rfl, Or.inl ⟨rfl, L1, hE9.trans (ps_end (fun z => by have := gX.2.1 ep2 (by omega); omega)), by omega, by omega, by omega, by (try simp only [List.length_append, List.length_cons, List.length_nil]); omega, hX2, zC2⟩, by rw [htQ]; exact hP9, va_K.moved hWQ.alike hK9, hD9⟩, hS.F htQ⟩) hS.2.2 dX5_readBoth_52
        · skip
          have c_16 : ¬ ez ≤ i := fun q => c_16 ((nI_leI (a := ez) (b := i) (by omega) (by omega)).mpr q)
          refine lv_aload_n hx hb dX5_readBoth_20 rfl (lv_at hl 0 rfl) ?_
          refine lv_bipush (v := 38) hx hb dX5_readBoth_21 (by decide) ?_
          have hPc := hP.sub (ws' := [(zo7iirrrririii bl esg (nI ecl) eW eA eE eC (nI ecd2) aTp (nI ez) (nI ep2) (nI em2)), (zaI aTp cTp 100 fTp)]) [0, 1] rfl
          have hDc := hD.sub (ws' := [(zo7iirrrririii bl esg (nI ecl) eW eA eE eC (nI ecd2) aTp (nI ez) (nI ep2) (nI em2)), (zaI aTp cTp 100 fTp)]) [0, 1] (by decide) rfl
          have hKc := hK.sub (tys' := [(cTp, .int)]) [0] rfl
          have hFc := va_free (wc := [(zo7iirrrririii bl esg (nI ecl) eW eA eE eC (nI ecd2) aTp (nI ez) (nI ep2) (nI em2)), (zaI aTp cTp 100 fTp)]) hD hS hA [0, 1] rfl
          refine va_calli (va_runV (As := [.int 38]) (rest := []) ⟨hx, hb, hml, hown, hts⟩ (c_xReadSign l dC dI bl aTp eW eA eE eC 38 ecl ecd2 esg cTp fTp ez ep2 em2 ss H.size (hez) (by omega) (by decide) (by decide) (gX)) (cwV 1 hts gX5_readBoth_X5_readSign rfl rfl rfl hd_yX5_readSign ⟨Nat.le_of_ble_eq_true rfl, Nat.le_of_ble_eq_true rfl⟩) ⟨fun a U g mk q => by obtain ⟨q0, q1, qP, qK, qD⟩ := q; exact ⟨q0, mvz g mk a q1, mvP g mk a qP, mvK g mk a qK, qD⟩, va_recv hK hP (ci := 7) (q := (RX5, TX5, 11)) (q0 := 0) rfl rfl, fun U hU hW => ⟨rfl, by rw [hU], by rw [hU]; exact hPc, va_K.moved hW.alike hKc, hDc.weaken (fun _ _ _ _ => trivial)⟩⟩ rfl rfl hl.1 rfl (lv_room (Nat.le_of_ble_eq_true rfl)) dX5_readBoth_23 ⟨Nat.le_of_ble_eq_true rfl, Nat.le_of_ble_eq_true rfl⟩) hS (fun q _ h => hFc q h) hFc (fun r_17 u tC H1 locs htC hvm hw_18 hB hz1 hk1 hS => ?_)
          obtain ⟨ep9_19, rfl⟩ : ∃ z, z = u := ⟨_, rfl⟩
          try dsimp only at hw_18 hB
          obtain ⟨hP1, hK1, hD1⟩ := hB
          rw [htC] at hP1
          have hK1 := va_K.moved hvm.symm hK1
          obtain ⟨hP, hD⟩ := va_join (wr := [(zaI eC ceC 100 feC2)]) (w1 := [(zo7iirrrririii bl esg (nI ecl) eW eA eE eC (nI ecd2) aTp (nI ez) (nI ep9_19) (nI em2)), (zaI aTp cTp 100 fTp)]) hP hD [0, 1] [2] rfl rfl (by decide) (by decide) hk1 hFc hP1 hD1
          have hK := (hK.sub (tys' := [(ceC, .int)]) [1] rfl).app hK1
          generalize H1 = H at hP hS ⊢
          have hP : va_P (dC, dI) vwCl [(zaI eC ceC 100 feC2), (zo7iirrrririii bl esg (nI ecl) eW eA eE eC (nI ecd2) aTp (nI ez) (nI ep9_19) (nI em2)), (zaI aTp cTp 100 fTp)] H := hP
          have hD : va_D A [(zaI eC ceC 100 feC2), (zo7iirrrririii bl esg (nI ecl) eW eA eE eC (nI ecd2) aTp (nI ez) (nI ep9_19) (nI em2)), (zaI aTp cTp 100 fTp)] := hD
          have hK : va_K (dC, dI) vwCl [(ceC, .int), (cTp, .int)] s := hK
          rcases hw_18 with ⟨rfl, hy9, h_20, e_21⟩ | ⟨rfl, hn9, e_21⟩
          · skip
            obtain rfl := (e_21).symm
            obtain ⟨m2, rfl⟩ : ∃ q : Nat, m1 = q + 1 := ⟨m1 - 1, by omega⟩
            refine lv_if_eq (tgt := 51) hx hb dX5_readBoth_26 (by decide) (fun c_22 => absurd c_22 (by decide)) (fun _ => ?_)
            refine lv_aload_n hx hb dX5_readBoth_29 rfl (lv_at hl 0 rfl) ?_
            refine lv_iload_n hx hb dX5_readBoth_30 rfl (lv_at hl 1 rfl) ?_
            have hPc := hP.sub (ws' := [(zo7iirrrririii bl esg (nI ecl) eW eA eE eC (nI ecd2) aTp (nI ez) (nI (ep2 + 1)) (nI em2)), (zaI aTp cTp 100 fTp), (zaI eC ceC 100 feC2)]) [1, 2, 0] rfl
            have hDc := hD.sub (ws' := [(zo7iirrrririii bl esg (nI ecl) eW eA eE eC (nI ecd2) aTp (nI ez) (nI (ep2 + 1)) (nI em2)), (zaI aTp cTp 100 fTp), (zaI eC ceC 100 feC2)]) [1, 2, 0] (by decide) rfl
            have hKc := hK.sub (tys' := [(cTp, .int), (ceC, .int)]) [1, 0] rfl
            have hFc := va_free (wc := [(zo7iirrrririii bl esg (nI ecl) eW eA eE eC (nI ecd2) aTp (nI ez) (nI (ep2 + 1)) (nI em2)), (zaI aTp cTp 100 fTp), (zaI eC ceC 100 feC2)]) hD hS hA [1, 2, 0] rfl
            refine va_calli (va_runV (As := [.int 4]) (rest := []) ⟨hx, hb, hml, hown, hts⟩ (c_xPlain4 l dC dI sK sV bl aTp eW eA eE eC ecl ecd2 esg cTp ceC fTp feC2 ez (ep2 + 1) em2 ss (kt ++ L1) H.size (hez) (by omega) (by omega) ((hX2).mono (by omega)) (zC2) (gX)) (cwV 1 hts gX5_readBoth_X5_readPlain rfl rfl rfl hd_yX5_readPlain ⟨Nat.le_of_ble_eq_true rfl, Nat.le_of_ble_eq_true rfl⟩) ⟨fun a U g mk q => by obtain ⟨q0, q1, qP, qK, qD, qhE⟩ := q; exact ⟨q0, mvz g mk a q1, mvP g mk a qP, mvK g mk a qK, qD, qhE.mv g mk a⟩, va_recv hK hP (ci := 7) (q := (RX5, TX5, 11)) (q0 := 1) rfl rfl, fun U hU hW => ⟨rfl, by rw [hU], by rw [hU]; exact hPc, va_K.moved hW.alike hKc, hDc.weaken (fun _ _ _ _ => trivial), hE.call hS hU hW (fun q h => hFc q h)⟩⟩ rfl rfl hl.1 rfl (lv_room (Nat.le_of_ble_eq_true rfl)) dX5_readBoth_31 ⟨Nat.le_of_ble_eq_true rfl, Nat.le_of_ble_eq_true rfl⟩) hS (fun q _ h => hFc q h) hFc (fun r_23 u tC H1 locs htC hvm hw_24 hB hz1 hk1 hS => ?_)
            obtain ⟨ecd9_25, ep9_26, em9_27, feC9_28⟩ := u
            try dsimp only at hw_24 hB
            obtain ⟨hP1, hK1, hD1⟩ := hB
            rw [htC] at hP1
            have hK1 := va_K.moved hvm.symm hK1
            obtain ⟨hP, hD⟩ := va_join (wr := []) (w1 := [(zo7iirrrririii bl esg (nI ecl) eW eA eE eC (nI ecd9_25) aTp (nI ez) (nI ep9_26) (nI em9_27)), (zaI aTp cTp 100 fTp), (zaI eC ceC 100 feC9_28)]) hP hD [1, 2, 0] [] rfl rfl (by decide) (by decide) hk1 hFc hP1 hD1
            have hK := (hK.sub (tys' := []) [] rfl).app hK1
            generalize H1 = H at hP hS ⊢
            have hP : va_P (dC, dI) vwCl [(zo7iirrrririii bl esg (nI ecl) eW eA eE eC (nI ecd9_25) aTp (nI ez) (nI ep9_26) (nI em9_27)), (zaI aTp cTp 100 fTp), (zaI eC ceC 100 feC9_28)] H := hP
            have hD : va_D A [(zo7iirrrririii bl esg (nI ecl) eW eA eE eC (nI ecd9_25) aTp (nI ez) (nI ep9_26) (nI em9_27)), (zaI aTp cTp 100 fTp), (zaI eC ceC 100 feC9_28)] := hD
            have hK : va_K (dC, dI) vwCl [(cTp, .int), (ceC, .int)] s := hK
            rcases hw_24 with ⟨rfl, L_29, eP_30, h_31, h_32, h_33, h_34, hX_36, hC_35⟩ | ⟨rfl, eP_30, h_31, h_32, h_33, hC_35⟩
            · skip
              refine lv_if_ne (tgt := 39) hx hb dX5_readBoth_34 (by decide) (fun _ => ?_) (fun c_37 => absurd c_37 (by decide))
              refine lv_aload_n hx hb dX5_readBoth_39 rfl (lv_at hl 0 rfl) ?_
              refine lv_bipush (v := (-2)) hx hb dX5_readBoth_40 (by decide) ?_
              have hPc := hP.sub (ws' := [(zo7iirrrririii bl esg (nI ecl) eW eA eE eC (nI ecd9_25) aTp (nI ez) (nI ep9_26) (nI em9_27)), (zaI eC ceC 100 feC9_28)]) [0, 2] rfl
              have hDc := hD.sub (ws' := [(zo7iirrrririii bl esg (nI ecl) eW eA eE eC (nI ecd9_25) aTp (nI ez) (nI ep9_26) (nI em9_27)), (zaI eC ceC 100 feC9_28)]) [0, 2] (by decide) rfl
              have hKc := hK.sub (tys' := [(ceC, .int)]) [1] rfl
              have hFc := va_free (wc := [(zo7iirrrririii bl esg (nI ecl) eW eA eE eC (nI ecd9_25) aTp (nI ez) (nI ep9_26) (nI em9_27)), (zaI eC ceC 100 feC9_28)]) hD hS hA [0, 2] rfl
              refine va_callv (va_runV (As := [.int (-2)]) (rest := []) ⟨hx, hb, hml, hown, hts⟩ (c_xCode l dC dI bl aTp eW eA eE eC ecl ecd9_25 (-2) esg ceC feC9_28 ez ep9_26 em9_27 ((kt ++ L1) ++ L_29) 1802 H.size ((hX_36).mono (by omega)) (by have h6 := (hX_36).1; have h7 := (hX_36).2.1; have h8 := hXT.1; have h9 := hXT.2.1; (try simp only [List.length_append] at h6); omega) (hC_35) (Or.inr (Or.inl rfl)) (by decide)) (cwV 1 hts gX5_readBoth_X5_code rfl rfl rfl hd_yX5_code ⟨Nat.le_of_ble_eq_true rfl, Nat.le_of_ble_eq_true rfl⟩) ⟨fun a U g mk q => by obtain ⟨q0, q1, qP, qK, qD⟩ := q; exact ⟨q0, mvz g mk a q1, mvP g mk a qP, mvK g mk a qK, qD⟩, va_recv hK hP (ci := 7) (q := (RX5, TX5, 11)) (q0 := 0) rfl rfl, fun U hU hW => ⟨rfl, by rw [hU], by rw [hU]; exact hPc, va_K.moved hW.alike hKc, hDc.weaken (fun _ _ _ _ => trivial)⟩⟩ rfl rfl hl.1 rfl (lv_room (Nat.le_of_ble_eq_true rfl)) dX5_readBoth_42 ⟨Nat.le_of_ble_eq_true rfl, Nat.le_of_ble_eq_true rfl⟩) hS (fun q _ h => hFc q h) hFc (fun u tC H1 locs htC hvm hw_39 hB hz1 hk1 hS => ?_)
              obtain ⟨ecd9_40, feC9_41⟩ := u
              try dsimp only at hw_39 hB
              obtain ⟨hP1, hK1, hD1⟩ := hB
              rw [htC] at hP1
              have hK1 := va_K.moved hvm.symm hK1
              obtain ⟨hP, hD⟩ := va_join (wr := [(zaI aTp cTp 100 fTp)]) (w1 := [(zo7iirrrririii bl esg (nI ecl) eW eA eE eC (nI ecd9_40) aTp (nI ez) (nI ep9_26) (nI em9_27)), (zaI eC ceC 100 feC9_41)]) hP hD [0, 2] [1] rfl rfl (by decide) (by decide) hk1 hFc hP1 hD1
              have hK := (hK.sub (tys' := [(cTp, .int)]) [0] rfl).app hK1
              generalize H1 = H at hP hS ⊢
              have hP : va_P (dC, dI) vwCl [(zaI aTp cTp 100 fTp), (zo7iirrrririii bl esg (nI ecl) eW eA eE eC (nI ecd9_40) aTp (nI ez) (nI ep9_26) (nI em9_27)), (zaI eC ceC 100 feC9_41)] H := hP
              have hD : va_D A [(zaI aTp cTp 100 fTp), (zo7iirrrririii bl esg (nI ecl) eW eA eE eC (nI ecd9_40) aTp (nI ez) (nI ep9_26) (nI em9_27)), (zaI eC ceC 100 feC9_41)] := hD
              have hK : va_K (dC, dI) vwCl [(cTp, .int), (ceC, .int)] s := hK
              obtain ⟨e_42, hC_43, h_44⟩ := hw_39
              obtain rfl := (e_42).symm
              have hX_45 : XT feC9_41 (ecd9_25 + 1) (((kt ++ L1) ++ L_29) ++ [1802]) (ep9_26) := ⟨by rw [List.length_append, (hX_36).1]; rfl, by have h6 := (hX_36).1; have h7 := (hX_36).2.1; have h8 := hXT.1; have h9 := hXT.2.1; (try simp only [List.length_append] at h6); omega, h_44⟩
              refine lv_iinc (v := nI (i + 1)) (lv' := [(2, .int (nI (i + 1))), (0, .ref bl), (1, .int 4)]) hx hb dX5_readBoth_45 hl (k := 2) rfl (nI_add i 1) (by decide) rfl (fun ls hl => ?_)
              refine lv_goto (tgt := 12) hx hb dX5_readBoth_48 (by decide) ?_
              exact ih12 (i + 1) _ _ _ _ (L1 ++ (L_29 ++ [1802])) (m2) (by omega) (by omega) (⟨hE9.trans (ps_go hy9 eP_30), by omega⟩) (by omega) (by simp only [List.length_append, List.length_cons, List.length_nil]; omega) (XT.as (XT.as (hX_45))) (hC_43) _ _ (hK.sub [0, 1] rfl) (hP.sub [1, 0, 2] rfl) (hD.sub [1, 0, 2] (by decide) rfl) hS ls (lv_sub hl [1, 2, 0] rfl)
            · skip
              refine lv_if_ne (tgt := 39) hx hb dX5_readBoth_34 (by decide) (fun c_46 => absurd c_46 (by decide)) (fun _ => ?_)
              refine lv_iconst (v := 0) hx hb dX5_readBoth_37 (by decide) ?_
              rw [hQ]
              have hP9 := hP.sub (ws' := [(zo7iirrrririii bl esg (nI ecl) eW eA eE eC (nI ecd9_25) aTp (nI ez) (nI ep9_26) (nI em9_27)), (zaI aTp cTp 100 fTp), (zaI eC ceC 100 feC9_28)]) [0, 1, 2] rfl
              have hD9 := hD.sub (ws' := [(zo7iirrrririii bl esg (nI ecl) eW eA eE eC (nI ecd9_25) aTp (nI ez) (nI ep9_26) (nI em9_27)), (zaI aTp cTp 100 fTp), (zaI eC ceC 100 feC9_28)]) [0, 1, 2] (by decide) rfl
              have hK9 := hK.sub (tys' := [(cTp, .int), (ceC, .int)]) [0, 1] rfl
              exact W.zret (v := 0) hx hb hr rfl (fun tQ htQ hWQ => ⟨⟨0, (ecd9_25, ep9_26, em9_27, feC9_28), rfl, Or.inr ⟨rfl, hE9.trans (ps_bad hy9 eP_30), by omega, by omega, by first | omega | (have := (hXT).2.1; omega), hC_35⟩, by rw [htQ]; exact hP9, va_K.moved hWQ.alike hK9, hD9⟩, hS.F htQ⟩) hS.2.2 dX5_readBoth_38
          · skip
            obtain rfl := (e_21).symm
            refine lv_if_eq (tgt := 51) hx hb dX5_readBoth_26 (by decide) (fun _ => ?_) (fun c_47 => absurd c_47 (by decide))
            refine lv_iconst (v := 1) hx hb dX5_readBoth_51 (by decide) ?_
            rw [hQ]
            have hP9 := hP.sub (ws' := [(zo7iirrrririii bl esg (nI ecl) eW eA eE eC (nI ecd2) aTp (nI ez) (nI ep2) (nI em2)), (zaI aTp cTp 100 fTp), (zaI eC ceC 100 feC2)]) [1, 2, 0] rfl
            have hD9 := hD.sub (ws' := [(zo7iirrrririii bl esg (nI ecl) eW eA eE eC (nI ecd2) aTp (nI ez) (nI ep2) (nI em2)), (zaI aTp cTp 100 fTp), (zaI eC ceC 100 feC2)]) [1, 2, 0] (by decide) rfl
            have hK9 := hK.sub (tys' := [(cTp, .int), (ceC, .int)]) [1, 0] rfl
            exact W.zret (v := 1) hx hb hr rfl (fun tQ htQ hWQ => ⟨⟨1, (ecd2, ep2, em2, feC2), rfl, Or.inl ⟨rfl, L1, hE9.trans (ps_end hn9), by omega, by omega, by omega, by (try simp only [List.length_append, List.length_cons, List.length_nil]); omega, hX2, zC2⟩, by rw [htQ]; exact hP9, va_K.moved hWQ.alike hK9, hD9⟩, hS.F htQ⟩) hS.2.2 dX5_readBoth_52
    exact L12 _ (0) _ _ _ _ (L_7) (101) (Nat.lt_succ_self _) (by omega) (⟨pEv_s eP_8, by omega⟩) (by omega) (by omega) (hX_14) (hC_13) _ _ (hK.sub [0, 1] rfl) (hP.sub [0, 1, 2] rfl) (hD.sub [0, 1, 2] (by decide) rfl) hS ls (lv_sub hl [1, 2, 0] rfl)
  · skip
    refine lv_if_ne (tgt := 10) hx hb dX5_readBoth_5 (by decide) (fun c_48 => absurd c_48 (by decide)) (fun _ => ?_)
    refine lv_iconst (v := 0) hx hb dX5_readBoth_8 (by decide) ?_
    rw [hQ]
    have hP9 := hP.sub (ws' := [(zo7iirrrririii bl esg (nI ecl) eW eA eE eC (nI ecd9_3) aTp (nI ez) (nI ep9_4) (nI em9_5)), (zaI aTp cTp 100 fTp), (zaI eC ceC 100 feC9_6)]) [0, 1, 2] rfl
    have hD9 := hD.sub (ws' := [(zo7iirrrririii bl esg (nI ecl) eW eA eE eC (nI ecd9_3) aTp (nI ez) (nI ep9_4) (nI em9_5)), (zaI aTp cTp 100 fTp), (zaI eC ceC 100 feC9_6)]) [0, 1, 2] (by decide) rfl
    have hK9 := hK.sub (tys' := [(cTp, .int), (ceC, .int)]) [0, 1] rfl
    exact W.zret (v := 0) hx hb hr rfl (fun tQ htQ hWQ => ⟨⟨0, (ecd9_3, ep9_4, em9_5, feC9_6), rfl, Or.inr ⟨rfl, pEv_n eP_8, by omega, by omega, by first | omega | (have := (hXT).2.1; omega), hC_13⟩, by rw [htQ]; exact hP9, va_K.moved hWQ.alike hK9, hD9⟩, hS.F htQ⟩) hS.2.2 dX5_readBoth_9

theorem kc_xEither4_0 : ∀ w ∈ wsX50, w ∈ wsX5_readEither := fun w h => List.mem_cons_of_mem _ (gin_wsX50 w h)
theorem kc_xEither4_1 : (.fieldLink RX5 31 "MistHeaps$Hill" "size" "I" : Cond) ∈ wsX5_readEither := kc_of 123 rfl rfl rfl
set_option maxHeartbeats 4000000 in
set_option maxRecDepth 100000 in
theorem c_xEither4 (l : Launch) (dC : Nat → ClassId) (dI : Nat → Nat → Nat) (sK sV : Nat → Nat) (bl : Nat) (aTp : Nat) (eW : Nat) (eA : Nat) (eE : Nat) (eC : Nat) (ecl : Nat) (ecd : Nat) (esg : Int32) (cTp : ClassId) (ceC : ClassId) (fTp : Nat → Int32) (feC : Nat → Int32) (ez : Nat) (ep : Nat) (em : Nat) (ss : Nat → Nat) (kt : List Nat) (sz : Nat) (hez : ez ≤ 100) (hep : ep ≤ ez) (hem : em ≤ 99) (hXT : XT feC ecd kt ep) (zeC : ∀ k0, k0 < 100 → okC (feC k0)) (gX : TX fTp ez ss) : Met l yX5_readEither wsX5_readEither ({ frames := 10, cells := 0, slots := 0, locals := 223 } : Room) (va_Pc [.ref bl, .int 4] (fun U => U.heap.size = sz ∧ va_P (dC, dI) vwCl [(zo7iirrrririii bl esg (nI ecl) eW eA eE eC (nI ecd) aTp (nI ez) (nI ep) (nI em)), (zaI aTp cTp 100 fTp), (zaI eC ceC 100 feC)] U.heap ∧ va_K (dC, dI) vwCl [(cTp, .int), (ceC, .int)] U ∧ va_D (fun _ => True) [(zo7iirrrririii bl esg (nI ecl) eW eA eE eC (nI ecd) aTp (nI ez) (nI ep) (nI em)), (zaI aTp cTp 100 fTp), (zaI eC ceC 100 feC)] ∧ Gs sK sV (va_A [(zo7iirrrririii bl esg (nI ecl) eW eA eE eC (nI ecd) aTp (nI ez) (nI ep) (nI em)), (zaI aTp cTp 100 fTp), (zaI eC ceC 100 feC)] sz) U)) (va_Qi (fun (r : Int32) (u : (Nat) × (Nat) × (Nat) × (Nat → Int32)) => match u with | (ecd9, ep9, em9, feC9) => (r = 1 ∧ ∃ L0 : List Nat, pSm ss (pFac ss 1) ep = (some L0, ep9) ∧ ep + 3 ≤ ep9 ∧ ep9 ≤ ez ∧ em9 ≤ 99 ∧ L0.length + ep ≤ ep9 ∧ XT feC9 ecd9 (kt ++ L0) ep9 ∧ ∀ k0, k0 < 100 → okC (feC9 k0)) ∨ (r = 0 ∧ pSm ss (pFac ss 1) ep = (none, ep9) ∧ ep9 ≤ ez + 2 ∧ em9 ≤ 99 ∧ ecd9 ≤ 100 ∧ ∀ k0, k0 < 100 → okC (feC9 k0))) (fun (u : (Nat) × (Nat) × (Nat) × (Nat → Int32)) (t : State) => match u with | (ecd9, ep9, em9, feC9) => va_P (dC, dI) vwCl [(zo7iirrrririii bl esg (nI ecl) eW eA eE eC (nI ecd9) aTp (nI ez) (nI ep9) (nI em9)), (zaI aTp cTp 100 fTp), (zaI eC ceC 100 feC9)] t.heap ∧ va_K (dC, dI) vwCl [(cTp, .int), (ceC, .int)] t ∧ va_D (va_A [(zo7iirrrririii bl esg (nI ecl) eW eA eE eC (nI ecd) aTp (nI ez) (nI ep) (nI em)), (zaI aTp cTp 100 fTp), (zaI eC ceC 100 feC)] sz) [(zo7iirrrririii bl esg (nI ecl) eW eA eE eC (nI ecd9) aTp (nI ez) (nI ep9) (nI em9)), (zaI aTp cTp 100 fTp), (zaI eC ceC 100 feC9)]) (va_A [(zo7iirrrririii bl esg (nI ecl) eW eA eE eC (nI ecd) aTp (nI ez) (nI ep) (nI em)), (zaI aTp cTp 100 fTp), (zaI eC ceC 100 feC)] sz)) 0 0 (va_A [(zo7iirrrririii bl esg (nI ecl) eW eA eE eC (nI ecd) aTp (nI ez) (nI ep) (nI em)), (zaI aTp cTp 100 fTp), (zaI eC ceC 100 feC)] sz) := by
  refine met_ofQ (cc := cX5_readEither) (maxL := 3) (ret := (some .boolean)) (by decide) rfl ?_
  intro p e s m args below meth c s₁ Q B hml hv hQ
  obtain ⟨rfl, hsz, hP, hK, hD0, hE⟩ := hv
  have hx := B.exec
  have hb := B.bytes
  have hr := B.returns
  have hts := atoms_spec (ws := wsX5_readEither) B.pre
  have hown : s.vm.findClass RX5 = some m.cls := findClass_of_methodNamed B.named
  have hlocks := B.notSynchronized
  subst hsz
  have hD := hD0.self (sz := s.heap.size)
  generalize hAe : va_A [(zo7iirrrririii bl esg (nI ecl) eW eA eE eC (nI ecd) aTp (nI ez) (nI ep) (nI em)), (zaI aTp cTp 100 fTp), (zaI eC ceC 100 feC)] s.heap.size = A at hD hQ hE ⊢
  have hA : ∀ q : Nat, s.heap.size ≤ q → A q := fun q h => by rw [← hAe]; exact Or.inr h
  have hS : va_S A s.heap s.heap [] := va_S.rf
  have hl := lv_entry [.ref bl, .int 4] (n := 3) (Nat.le_of_ble_eq_true rfl)
  rw [lg_entry_eq]
  generalize (lg_sl [.ref bl, .int 4] ++ List.replicate (3 - (lg_sl [.ref bl, .int 4]).length) Slot.unset).toArray = ls at hl ⊢
  generalize hag : ([.ref bl, .int 4] : List Value).toArray = args at hts hQ ⊢
  have hl : lv_has ls 3 [(0, .ref bl), (1, .int 4)] := hl
  obtain ⟨H, hH⟩ : ∃ H : Heap, H = s.heap := ⟨_, rfl⟩
  rw [← hH] at hP
  rw [← hH]
  have hS : va_S A s.heap H [] := by rw [hH]; exact hS
  obtain ⟨locs, hlo⟩ : ∃ L : List Loc, L = [] := ⟨_, rfl⟩
  rw [← hlo] at hS
  rw [← hlo]
  clear hH hlo
  refine lv_aload_n hx hb dX5_readEither_0 rfl (lv_at hl 0 rfl) ?_
  refine lv_iload_n hx hb dX5_readEither_1 rfl (lv_at hl 1 rfl) ?_
  have hPc := hP.sub (ws' := [(zo7iirrrririii bl esg (nI ecl) eW eA eE eC (nI ecd) aTp (nI ez) (nI ep) (nI em)), (zaI aTp cTp 100 fTp), (zaI eC ceC 100 feC)]) [0, 1, 2] rfl
  have hDc := hD.sub (ws' := [(zo7iirrrririii bl esg (nI ecl) eW eA eE eC (nI ecd) aTp (nI ez) (nI ep) (nI em)), (zaI aTp cTp 100 fTp), (zaI eC ceC 100 feC)]) [0, 1, 2] (by decide) rfl
  have hKc := hK.sub (tys' := [(cTp, .int), (ceC, .int)]) [0, 1] rfl
  have hFc := va_free (wc := [(zo7iirrrririii bl esg (nI ecl) eW eA eE eC (nI ecd) aTp (nI ez) (nI ep) (nI em)), (zaI aTp cTp 100 fTp), (zaI eC ceC 100 feC)]) hD hS hA [0, 1, 2] rfl
  refine va_calli (va_runV (As := [.int 4]) (rest := []) ⟨hx, hb, hml, hown, hts⟩ (c_xBoth4 l dC dI sK sV bl aTp eW eA eE eC ecl ecd esg cTp ceC fTp feC ez ep em ss kt H.size (hez) (by omega) (by omega) ((hXT).mono (by omega)) (zeC) (gX)) (cwV 1 hts gX5_readEither_X5_readBoth rfl rfl rfl hd_yX5_readBoth ⟨Nat.le_of_ble_eq_true rfl, Nat.le_of_ble_eq_true rfl⟩) ⟨fun a U g mk q => by obtain ⟨q0, q1, qP, qK, qD, qhE⟩ := q; exact ⟨q0, mvz g mk a q1, mvP g mk a qP, mvK g mk a qK, qD, qhE.mv g mk a⟩, va_recv hK hP (ci := 7) (q := (RX5, TX5, 11)) (q0 := 0) rfl rfl, fun U hU hW => ⟨rfl, by rw [hU], by rw [hU]; exact hPc, va_K.moved hW.alike hKc, hDc.weaken (fun _ _ _ _ => trivial), hE.call hS hU hW (fun q h => hFc q h)⟩⟩ rfl rfl hl.1 rfl (lv_room (Nat.le_of_ble_eq_true rfl)) dX5_readEither_2 ⟨Nat.le_of_ble_eq_true rfl, Nat.le_of_ble_eq_true rfl⟩) hS (fun q _ h => hFc q h) hFc (fun r_1 u tC H1 locs htC hvm hw_2 hB hz1 hk1 hS => ?_)
  obtain ⟨ecd9_3, ep9_4, em9_5, feC9_6⟩ := u
  try dsimp only at hw_2 hB
  obtain ⟨hP1, hK1, hD1⟩ := hB
  rw [htC] at hP1
  have hK1 := va_K.moved hvm.symm hK1
  obtain ⟨hP, hD⟩ := va_join (wr := []) (w1 := [(zo7iirrrririii bl esg (nI ecl) eW eA eE eC (nI ecd9_3) aTp (nI ez) (nI ep9_4) (nI em9_5)), (zaI aTp cTp 100 fTp), (zaI eC ceC 100 feC9_6)]) hP hD [0, 1, 2] [] rfl rfl (by decide) (by decide) hk1 hFc hP1 hD1
  have hK := (hK.sub (tys' := []) [] rfl).app hK1
  generalize H1 = H at hP hS ⊢
  have hP : va_P (dC, dI) vwCl [(zo7iirrrririii bl esg (nI ecl) eW eA eE eC (nI ecd9_3) aTp (nI ez) (nI ep9_4) (nI em9_5)), (zaI aTp cTp 100 fTp), (zaI eC ceC 100 feC9_6)] H := hP
  have hD : va_D A [(zo7iirrrririii bl esg (nI ecl) eW eA eE eC (nI ecd9_3) aTp (nI ez) (nI ep9_4) (nI em9_5)), (zaI aTp cTp 100 fTp), (zaI eC ceC 100 feC9_6)] := hD
  have hK : va_K (dC, dI) vwCl [(cTp, .int), (ceC, .int)] s := hK
  rcases hw_2 with ⟨rfl, L_7, eP_8, h_9, h_10, h_11, h_12, hX_14, hC_13⟩ | ⟨rfl, eP_8, h_9, h_10, h_11, hC_13⟩
  · skip
    refine lv_if_ne (tgt := 10) hx hb dX5_readEither_5 (by decide) (fun _ => ?_) (fun c_15 => absurd c_15 (by decide))
    refine lv_iconst (v := 0) hx hb dX5_readEither_10 (by decide) ?_
    refine lv_istore_n (lv' := [(2, .int 0), (0, .ref bl), (1, .int 4)]) hx hb dX5_readEither_11 rfl hl (by decide) rfl (fun ls hl => ?_)
    have L12 : ∀ (nF : Nat) (i : Nat) (ecd2 : Nat) (ep2 : Nat) (em2 : Nat) (feC2 : Nat → Int32) (L1 : List Nat) (m1 : Nat), ez - i < nF → (i ≤ ez) → (pSm ss (pFac ss 1) ep = pSep ss 124 1803 (pEv ss (pFac ss 1)) m1 (some L1, ep2) ∧ 101 ≤ m1 + ep2) → (ep + 3 + 2 * i ≤ ep2 ∧ ep2 ≤ ez ∧ em2 ≤ 99) → (L1.length + ep ≤ ep2) → (XT feC2 ecd2 (kt ++ L1) ep2) → (∀ k0, k0 < 100 → okC (feC2 k0)) → ∀ (H : Heap) (locs : List Loc), va_K (dC, dI) vwCl [(cTp, .int), (ceC, .int)] s → va_P (dC, dI) vwCl [(zo7iirrrririii bl esg (nI ecl) eW eA eE eC (nI ecd2) aTp (nI ez) (nI ep2) (nI em2)), (zaI aTp cTp 100 fTp), (zaI eC ceC 100 feC2)] H → va_D A [(zo7iirrrririii bl esg (nI ecl) eW eA eE eC (nI ecd2) aTp (nI ez) (nI ep2) (nI em2)), (zaI aTp cTp 100 fTp), (zaI eC ceC 100 feC2)] → va_S A s.heap H locs → ∀ (ls : Array Slot), lv_has ls 3 [(0, .ref bl), (1, .int 4), (2, .int (nI i))] → W p l e ({ frames := 10, cells := 0, slots := 0, locals := 223 } : Room) s m args below meth c H locs 0 0 Q (F0 m 12 ls []) := by
      intro nF
      induction nF with
      | zero => intro i ecd2 ep2 em2 feC2 L1 m1 hm; exact absurd hm (Nat.not_lt_zero _)
      | succ nF ih12 =>
        intro i ecd2 ep2 em2 feC2 L1 m1 hm hii hE9 hp2 hL2 hX2 zC2 H locs hK hP hD hS ls hl
        obtain ⟨hE9, hm9⟩ := hE9
        obtain ⟨hp2a, hp2b, hp2c⟩ := hp2
        refine lv_iload_n hx hb dX5_readEither_12 rfl (lv_at hl 2 rfl) ?_
        refine lv_aload_n hx hb dX5_readEither_13 rfl (lv_at hl 0 rfl) ?_
        refine va_get (D := (dC, dI)) (ci := 7) (v := .int (nI ez)) (C := RX5) (T := TX5) (N := 11) hx hb hts kc_xEither4_0 hown hK hP 0 rfl rfl 8 (by decide) (hts (.fieldLink RX5 31 "MistHeaps$Hill" "size" "I") kc_xEither4_1) (fun _ h9 => h9) rfl dX5_readEither_14 ?_
        refine lv_icmp_ge (tgt := 51) hx hb dX5_readEither_17 (by decide) (fun c_16 => ?_) (fun c_16 => ?_)
        · skip
          have c_16 : ez ≤ i := (nI_leI (a := ez) (b := i) (by omega) (by omega)).mp c_16
          refine lv_iconst (v := 1) hx hb dX5_readEither_51 (by decide) ?_
          rw [hQ]
          have hP9 := hP.sub (ws' := [(zo7iirrrririii bl esg (nI ecl) eW eA eE eC (nI ecd2) aTp (nI ez) (nI ep2) (nI em2)), (zaI aTp cTp 100 fTp), (zaI eC ceC 100 feC2)]) [0, 1, 2] rfl
          have hD9 := hD.sub (ws' := [(zo7iirrrririii bl esg (nI ecl) eW eA eE eC (nI ecd2) aTp (nI ez) (nI ep2) (nI em2)), (zaI aTp cTp 100 fTp), (zaI eC ceC 100 feC2)]) [0, 1, 2] (by decide) rfl
          have hK9 := hK.sub (tys' := [(cTp, .int), (ceC, .int)]) [0, 1] rfl
          exact W.zret (v := 1) hx hb hr rfl (fun tQ htQ hWQ => ⟨⟨1, (ecd2, ep2, em2, feC2), rfl, Or.inl ⟨rfl, L1, hE9.trans (ps_end (fun z => by have := gX.2.1 ep2 (by omega); omega)), by omega, by omega, by omega, by (try simp only [List.length_append, List.length_cons, List.length_nil]); omega, hX2, zC2⟩, by rw [htQ]; exact hP9, va_K.moved hWQ.alike hK9, hD9⟩, hS.F htQ⟩) hS.2.2 dX5_readEither_52
        · skip
          have c_16 : ¬ ez ≤ i := fun q => c_16 ((nI_leI (a := ez) (b := i) (by omega) (by omega)).mpr q)
          refine lv_aload_n hx hb dX5_readEither_20 rfl (lv_at hl 0 rfl) ?_
          refine lv_bipush (v := 124) hx hb dX5_readEither_21 (by decide) ?_
          have hPc := hP.sub (ws' := [(zo7iirrrririii bl esg (nI ecl) eW eA eE eC (nI ecd2) aTp (nI ez) (nI ep2) (nI em2)), (zaI aTp cTp 100 fTp)]) [0, 1] rfl
          have hDc := hD.sub (ws' := [(zo7iirrrririii bl esg (nI ecl) eW eA eE eC (nI ecd2) aTp (nI ez) (nI ep2) (nI em2)), (zaI aTp cTp 100 fTp)]) [0, 1] (by decide) rfl
          have hKc := hK.sub (tys' := [(cTp, .int)]) [0] rfl
          have hFc := va_free (wc := [(zo7iirrrririii bl esg (nI ecl) eW eA eE eC (nI ecd2) aTp (nI ez) (nI ep2) (nI em2)), (zaI aTp cTp 100 fTp)]) hD hS hA [0, 1] rfl
          refine va_calli (va_runV (As := [.int 124]) (rest := []) ⟨hx, hb, hml, hown, hts⟩ (c_xReadSign l dC dI bl aTp eW eA eE eC 124 ecl ecd2 esg cTp fTp ez ep2 em2 ss H.size (hez) (by omega) (by decide) (by decide) (gX)) (cwV 1 hts gX5_readEither_X5_readSign rfl rfl rfl hd_yX5_readSign ⟨Nat.le_of_ble_eq_true rfl, Nat.le_of_ble_eq_true rfl⟩) ⟨fun a U g mk q => by obtain ⟨q0, q1, qP, qK, qD⟩ := q; exact ⟨q0, mvz g mk a q1, mvP g mk a qP, mvK g mk a qK, qD⟩, va_recv hK hP (ci := 7) (q := (RX5, TX5, 11)) (q0 := 0) rfl rfl, fun U hU hW => ⟨rfl, by rw [hU], by rw [hU]; exact hPc, va_K.moved hW.alike hKc, hDc.weaken (fun _ _ _ _ => trivial)⟩⟩ rfl rfl hl.1 rfl (lv_room (Nat.le_of_ble_eq_true rfl)) dX5_readEither_23 ⟨Nat.le_of_ble_eq_true rfl, Nat.le_of_ble_eq_true rfl⟩) hS (fun q _ h => hFc q h) hFc (fun r_17 u tC H1 locs htC hvm hw_18 hB hz1 hk1 hS => ?_)
          obtain ⟨ep9_19, rfl⟩ : ∃ z, z = u := ⟨_, rfl⟩
          try dsimp only at hw_18 hB
          obtain ⟨hP1, hK1, hD1⟩ := hB
          rw [htC] at hP1
          have hK1 := va_K.moved hvm.symm hK1
          obtain ⟨hP, hD⟩ := va_join (wr := [(zaI eC ceC 100 feC2)]) (w1 := [(zo7iirrrririii bl esg (nI ecl) eW eA eE eC (nI ecd2) aTp (nI ez) (nI ep9_19) (nI em2)), (zaI aTp cTp 100 fTp)]) hP hD [0, 1] [2] rfl rfl (by decide) (by decide) hk1 hFc hP1 hD1
          have hK := (hK.sub (tys' := [(ceC, .int)]) [1] rfl).app hK1
          generalize H1 = H at hP hS ⊢
          have hP : va_P (dC, dI) vwCl [(zaI eC ceC 100 feC2), (zo7iirrrririii bl esg (nI ecl) eW eA eE eC (nI ecd2) aTp (nI ez) (nI ep9_19) (nI em2)), (zaI aTp cTp 100 fTp)] H := hP
          have hD : va_D A [(zaI eC ceC 100 feC2), (zo7iirrrririii bl esg (nI ecl) eW eA eE eC (nI ecd2) aTp (nI ez) (nI ep9_19) (nI em2)), (zaI aTp cTp 100 fTp)] := hD
          have hK : va_K (dC, dI) vwCl [(ceC, .int), (cTp, .int)] s := hK
          rcases hw_18 with ⟨rfl, hy9, h_20, e_21⟩ | ⟨rfl, hn9, e_21⟩
          · skip
            obtain rfl := (e_21).symm
            obtain ⟨m2, rfl⟩ : ∃ q : Nat, m1 = q + 1 := ⟨m1 - 1, by omega⟩
            refine lv_if_eq (tgt := 51) hx hb dX5_readEither_26 (by decide) (fun c_22 => absurd c_22 (by decide)) (fun _ => ?_)
            refine lv_aload_n hx hb dX5_readEither_29 rfl (lv_at hl 0 rfl) ?_
            refine lv_iload_n hx hb dX5_readEither_30 rfl (lv_at hl 1 rfl) ?_
            have hPc := hP.sub (ws' := [(zo7iirrrririii bl esg (nI ecl) eW eA eE eC (nI ecd2) aTp (nI ez) (nI (ep2 + 1)) (nI em2)), (zaI aTp cTp 100 fTp), (zaI eC ceC 100 feC2)]) [1, 2, 0] rfl
            have hDc := hD.sub (ws' := [(zo7iirrrririii bl esg (nI ecl) eW eA eE eC (nI ecd2) aTp (nI ez) (nI (ep2 + 1)) (nI em2)), (zaI aTp cTp 100 fTp), (zaI eC ceC 100 feC2)]) [1, 2, 0] (by decide) rfl
            have hKc := hK.sub (tys' := [(cTp, .int), (ceC, .int)]) [1, 0] rfl
            have hFc := va_free (wc := [(zo7iirrrririii bl esg (nI ecl) eW eA eE eC (nI ecd2) aTp (nI ez) (nI (ep2 + 1)) (nI em2)), (zaI aTp cTp 100 fTp), (zaI eC ceC 100 feC2)]) hD hS hA [1, 2, 0] rfl
            refine va_calli (va_runV (As := [.int 4]) (rest := []) ⟨hx, hb, hml, hown, hts⟩ (c_xBoth4 l dC dI sK sV bl aTp eW eA eE eC ecl ecd2 esg cTp ceC fTp feC2 ez (ep2 + 1) em2 ss (kt ++ L1) H.size (hez) (by omega) (by omega) ((hX2).mono (by omega)) (zC2) (gX)) (cwV 1 hts gX5_readEither_X5_readBoth rfl rfl rfl hd_yX5_readBoth ⟨Nat.le_of_ble_eq_true rfl, Nat.le_of_ble_eq_true rfl⟩) ⟨fun a U g mk q => by obtain ⟨q0, q1, qP, qK, qD, qhE⟩ := q; exact ⟨q0, mvz g mk a q1, mvP g mk a qP, mvK g mk a qK, qD, qhE.mv g mk a⟩, va_recv hK hP (ci := 7) (q := (RX5, TX5, 11)) (q0 := 1) rfl rfl, fun U hU hW => ⟨rfl, by rw [hU], by rw [hU]; exact hPc, va_K.moved hW.alike hKc, hDc.weaken (fun _ _ _ _ => trivial), hE.call hS hU hW (fun q h => hFc q h)⟩⟩ rfl rfl hl.1 rfl (lv_room (Nat.le_of_ble_eq_true rfl)) dX5_readEither_31 ⟨Nat.le_of_ble_eq_true rfl, Nat.le_of_ble_eq_true rfl⟩) hS (fun q _ h => hFc q h) hFc (fun r_23 u tC H1 locs htC hvm hw_24 hB hz1 hk1 hS => ?_)
            obtain ⟨ecd9_25, ep9_26, em9_27, feC9_28⟩ := u
            try dsimp only at hw_24 hB
            obtain ⟨hP1, hK1, hD1⟩ := hB
            rw [htC] at hP1
            have hK1 := va_K.moved hvm.symm hK1
            obtain ⟨hP, hD⟩ := va_join (wr := []) (w1 := [(zo7iirrrririii bl esg (nI ecl) eW eA eE eC (nI ecd9_25) aTp (nI ez) (nI ep9_26) (nI em9_27)), (zaI aTp cTp 100 fTp), (zaI eC ceC 100 feC9_28)]) hP hD [1, 2, 0] [] rfl rfl (by decide) (by decide) hk1 hFc hP1 hD1
            have hK := (hK.sub (tys' := []) [] rfl).app hK1
            generalize H1 = H at hP hS ⊢
            have hP : va_P (dC, dI) vwCl [(zo7iirrrririii bl esg (nI ecl) eW eA eE eC (nI ecd9_25) aTp (nI ez) (nI ep9_26) (nI em9_27)), (zaI aTp cTp 100 fTp), (zaI eC ceC 100 feC9_28)] H := hP
            have hD : va_D A [(zo7iirrrririii bl esg (nI ecl) eW eA eE eC (nI ecd9_25) aTp (nI ez) (nI ep9_26) (nI em9_27)), (zaI aTp cTp 100 fTp), (zaI eC ceC 100 feC9_28)] := hD
            have hK : va_K (dC, dI) vwCl [(cTp, .int), (ceC, .int)] s := hK
            rcases hw_24 with ⟨rfl, L_29, eP_30, h_31, h_32, h_33, h_34, hX_36, hC_35⟩ | ⟨rfl, eP_30, h_31, h_32, h_33, hC_35⟩
            · skip
              refine lv_if_ne (tgt := 39) hx hb dX5_readEither_34 (by decide) (fun _ => ?_) (fun c_37 => absurd c_37 (by decide))
              refine lv_aload_n hx hb dX5_readEither_39 rfl (lv_at hl 0 rfl) ?_
              refine lv_bipush (v := (-3)) hx hb dX5_readEither_40 (by decide) ?_
              have hPc := hP.sub (ws' := [(zo7iirrrririii bl esg (nI ecl) eW eA eE eC (nI ecd9_25) aTp (nI ez) (nI ep9_26) (nI em9_27)), (zaI eC ceC 100 feC9_28)]) [0, 2] rfl
              have hDc := hD.sub (ws' := [(zo7iirrrririii bl esg (nI ecl) eW eA eE eC (nI ecd9_25) aTp (nI ez) (nI ep9_26) (nI em9_27)), (zaI eC ceC 100 feC9_28)]) [0, 2] (by decide) rfl
              have hKc := hK.sub (tys' := [(ceC, .int)]) [1] rfl
              have hFc := va_free (wc := [(zo7iirrrririii bl esg (nI ecl) eW eA eE eC (nI ecd9_25) aTp (nI ez) (nI ep9_26) (nI em9_27)), (zaI eC ceC 100 feC9_28)]) hD hS hA [0, 2] rfl
              refine va_callv (va_runV (As := [.int (-3)]) (rest := []) ⟨hx, hb, hml, hown, hts⟩ (c_xCode l dC dI bl aTp eW eA eE eC ecl ecd9_25 (-3) esg ceC feC9_28 ez ep9_26 em9_27 ((kt ++ L1) ++ L_29) 1803 H.size ((hX_36).mono (by omega)) (by have h6 := (hX_36).1; have h7 := (hX_36).2.1; have h8 := hXT.1; have h9 := hXT.2.1; (try simp only [List.length_append] at h6); omega) (hC_35) (Or.inr (Or.inr (Or.inl rfl))) (by decide)) (cwV 1 hts gX5_readEither_X5_code rfl rfl rfl hd_yX5_code ⟨Nat.le_of_ble_eq_true rfl, Nat.le_of_ble_eq_true rfl⟩) ⟨fun a U g mk q => by obtain ⟨q0, q1, qP, qK, qD⟩ := q; exact ⟨q0, mvz g mk a q1, mvP g mk a qP, mvK g mk a qK, qD⟩, va_recv hK hP (ci := 7) (q := (RX5, TX5, 11)) (q0 := 0) rfl rfl, fun U hU hW => ⟨rfl, by rw [hU], by rw [hU]; exact hPc, va_K.moved hW.alike hKc, hDc.weaken (fun _ _ _ _ => trivial)⟩⟩ rfl rfl hl.1 rfl (lv_room (Nat.le_of_ble_eq_true rfl)) dX5_readEither_42 ⟨Nat.le_of_ble_eq_true rfl, Nat.le_of_ble_eq_true rfl⟩) hS (fun q _ h => hFc q h) hFc (fun u tC H1 locs htC hvm hw_39 hB hz1 hk1 hS => ?_)
              obtain ⟨ecd9_40, feC9_41⟩ := u
              try dsimp only at hw_39 hB
              obtain ⟨hP1, hK1, hD1⟩ := hB
              rw [htC] at hP1
              have hK1 := va_K.moved hvm.symm hK1
              obtain ⟨hP, hD⟩ := va_join (wr := [(zaI aTp cTp 100 fTp)]) (w1 := [(zo7iirrrririii bl esg (nI ecl) eW eA eE eC (nI ecd9_40) aTp (nI ez) (nI ep9_26) (nI em9_27)), (zaI eC ceC 100 feC9_41)]) hP hD [0, 2] [1] rfl rfl (by decide) (by decide) hk1 hFc hP1 hD1
              have hK := (hK.sub (tys' := [(cTp, .int)]) [0] rfl).app hK1
              generalize H1 = H at hP hS ⊢
              have hP : va_P (dC, dI) vwCl [(zaI aTp cTp 100 fTp), (zo7iirrrririii bl esg (nI ecl) eW eA eE eC (nI ecd9_40) aTp (nI ez) (nI ep9_26) (nI em9_27)), (zaI eC ceC 100 feC9_41)] H := hP
              have hD : va_D A [(zaI aTp cTp 100 fTp), (zo7iirrrririii bl esg (nI ecl) eW eA eE eC (nI ecd9_40) aTp (nI ez) (nI ep9_26) (nI em9_27)), (zaI eC ceC 100 feC9_41)] := hD
              have hK : va_K (dC, dI) vwCl [(cTp, .int), (ceC, .int)] s := hK
              obtain ⟨e_42, hC_43, h_44⟩ := hw_39
              obtain rfl := (e_42).symm
              have hX_45 : XT feC9_41 (ecd9_25 + 1) (((kt ++ L1) ++ L_29) ++ [1803]) (ep9_26) := ⟨by rw [List.length_append, (hX_36).1]; rfl, by have h6 := (hX_36).1; have h7 := (hX_36).2.1; have h8 := hXT.1; have h9 := hXT.2.1; (try simp only [List.length_append] at h6); omega, h_44⟩
              refine lv_iinc (v := nI (i + 1)) (lv' := [(2, .int (nI (i + 1))), (0, .ref bl), (1, .int 4)]) hx hb dX5_readEither_45 hl (k := 2) rfl (nI_add i 1) (by decide) rfl (fun ls hl => ?_)
              refine lv_goto (tgt := 12) hx hb dX5_readEither_48 (by decide) ?_
              exact ih12 (i + 1) _ _ _ _ (L1 ++ (L_29 ++ [1803])) (m2) (by omega) (by omega) (⟨hE9.trans (ps_go hy9 eP_30), by omega⟩) (by omega) (by simp only [List.length_append, List.length_cons, List.length_nil]; omega) (XT.as (XT.as (hX_45))) (hC_43) _ _ (hK.sub [0, 1] rfl) (hP.sub [1, 0, 2] rfl) (hD.sub [1, 0, 2] (by decide) rfl) hS ls (lv_sub hl [1, 2, 0] rfl)
            · skip
              refine lv_if_ne (tgt := 39) hx hb dX5_readEither_34 (by decide) (fun c_46 => absurd c_46 (by decide)) (fun _ => ?_)
              refine lv_iconst (v := 0) hx hb dX5_readEither_37 (by decide) ?_
              rw [hQ]
              have hP9 := hP.sub (ws' := [(zo7iirrrririii bl esg (nI ecl) eW eA eE eC (nI ecd9_25) aTp (nI ez) (nI ep9_26) (nI em9_27)), (zaI aTp cTp 100 fTp), (zaI eC ceC 100 feC9_28)]) [0, 1, 2] rfl
              have hD9 := hD.sub (ws' := [(zo7iirrrririii bl esg (nI ecl) eW eA eE eC (nI ecd9_25) aTp (nI ez) (nI ep9_26) (nI em9_27)), (zaI aTp cTp 100 fTp), (zaI eC ceC 100 feC9_28)]) [0, 1, 2] (by decide) rfl
              have hK9 := hK.sub (tys' := [(cTp, .int), (ceC, .int)]) [0, 1] rfl
              exact W.zret (v := 0) hx hb hr rfl (fun tQ htQ hWQ => ⟨⟨0, (ecd9_25, ep9_26, em9_27, feC9_28), rfl, Or.inr ⟨rfl, hE9.trans (ps_bad hy9 eP_30), by omega, by omega, by first | omega | (have := (hXT).2.1; omega), hC_35⟩, by rw [htQ]; exact hP9, va_K.moved hWQ.alike hK9, hD9⟩, hS.F htQ⟩) hS.2.2 dX5_readEither_38
          · skip
            obtain rfl := (e_21).symm
            refine lv_if_eq (tgt := 51) hx hb dX5_readEither_26 (by decide) (fun _ => ?_) (fun c_47 => absurd c_47 (by decide))
            refine lv_iconst (v := 1) hx hb dX5_readEither_51 (by decide) ?_
            rw [hQ]
            have hP9 := hP.sub (ws' := [(zo7iirrrririii bl esg (nI ecl) eW eA eE eC (nI ecd2) aTp (nI ez) (nI ep2) (nI em2)), (zaI aTp cTp 100 fTp), (zaI eC ceC 100 feC2)]) [1, 2, 0] rfl
            have hD9 := hD.sub (ws' := [(zo7iirrrririii bl esg (nI ecl) eW eA eE eC (nI ecd2) aTp (nI ez) (nI ep2) (nI em2)), (zaI aTp cTp 100 fTp), (zaI eC ceC 100 feC2)]) [1, 2, 0] (by decide) rfl
            have hK9 := hK.sub (tys' := [(cTp, .int), (ceC, .int)]) [1, 0] rfl
            exact W.zret (v := 1) hx hb hr rfl (fun tQ htQ hWQ => ⟨⟨1, (ecd2, ep2, em2, feC2), rfl, Or.inl ⟨rfl, L1, hE9.trans (ps_end hn9), by omega, by omega, by omega, by (try simp only [List.length_append, List.length_cons, List.length_nil]); omega, hX2, zC2⟩, by rw [htQ]; exact hP9, va_K.moved hWQ.alike hK9, hD9⟩, hS.F htQ⟩) hS.2.2 dX5_readEither_52
    exact L12 _ (0) _ _ _ _ (L_7) (101) (Nat.lt_succ_self _) (by omega) (⟨pSm_s eP_8, by omega⟩) (by omega) (by omega) (hX_14) (hC_13) _ _ (hK.sub [0, 1] rfl) (hP.sub [0, 1, 2] rfl) (hD.sub [0, 1, 2] (by decide) rfl) hS ls (lv_sub hl [1, 2, 0] rfl)
  · skip
    refine lv_if_ne (tgt := 10) hx hb dX5_readEither_5 (by decide) (fun c_48 => absurd c_48 (by decide)) (fun _ => ?_)
    refine lv_iconst (v := 0) hx hb dX5_readEither_8 (by decide) ?_
    rw [hQ]
    have hP9 := hP.sub (ws' := [(zo7iirrrririii bl esg (nI ecl) eW eA eE eC (nI ecd9_3) aTp (nI ez) (nI ep9_4) (nI em9_5)), (zaI aTp cTp 100 fTp), (zaI eC ceC 100 feC9_6)]) [0, 1, 2] rfl
    have hD9 := hD.sub (ws' := [(zo7iirrrririii bl esg (nI ecl) eW eA eE eC (nI ecd9_3) aTp (nI ez) (nI ep9_4) (nI em9_5)), (zaI aTp cTp 100 fTp), (zaI eC ceC 100 feC9_6)]) [0, 1, 2] (by decide) rfl
    have hK9 := hK.sub (tys' := [(cTp, .int), (ceC, .int)]) [0, 1] rfl
    exact W.zret (v := 0) hx hb hr rfl (fun tQ htQ hWQ => ⟨⟨0, (ecd9_3, ep9_4, em9_5, feC9_6), rfl, Or.inr ⟨rfl, pSm_n eP_8, by omega, by omega, by first | omega | (have := (hXT).2.1; omega), hC_13⟩, by rw [htQ]; exact hP9, va_K.moved hWQ.alike hK9, hD9⟩, hS.F htQ⟩) hS.2.2 dX5_readEither_9
end mg15f
section mg15f

theorem kc_xPlain3_0 : ∀ w ∈ wsX50, w ∈ wsX5_readPlain := fun w h => List.mem_cons_of_mem _ (gin_wsX50 w h)
theorem kc_xPlain3_1 : (.fieldLink RX5 34 "MistHeaps$Hill" "at" "I" : Cond) ∈ wsX5_readPlain := kc_of 124 rfl rfl rfl
set_option maxHeartbeats 4000000 in
set_option maxRecDepth 100000 in
theorem c_xPlain3 (l : Launch) (dC : Nat → ClassId) (dI : Nat → Nat → Nat) (sK sV : Nat → Nat) (bl : Nat) (aTp : Nat) (eW : Nat) (eA : Nat) (eE : Nat) (eC : Nat) (ecl : Nat) (ecd : Nat) (esg : Int32) (cTp : ClassId) (ceC : ClassId) (fTp : Nat → Int32) (feC : Nat → Int32) (ez : Nat) (ep : Nat) (em : Nat) (ss : Nat → Nat) (kt : List Nat) (sz : Nat) (hez : ez ≤ 100) (hep : ep ≤ ez) (hem : em ≤ 99) (hXT : XT feC ecd kt ep) (zeC : ∀ k0, k0 < 100 → okC (feC k0)) (gX : TX fTp ez ss) : Met l yX5_readPlain wsX5_readPlain ({ frames := 11, cells := 0, slots := 0, locals := 245 } : Room) (va_Pc [.ref bl, .int 3] (fun U => U.heap.size = sz ∧ va_P (dC, dI) vwCl [(zo7iirrrririii bl esg (nI ecl) eW eA eE eC (nI ecd) aTp (nI ez) (nI ep) (nI em)), (zaI aTp cTp 100 fTp), (zaI eC ceC 100 feC)] U.heap ∧ va_K (dC, dI) vwCl [(cTp, .int), (ceC, .int)] U ∧ va_D (fun _ => True) [(zo7iirrrririii bl esg (nI ecl) eW eA eE eC (nI ecd) aTp (nI ez) (nI ep) (nI em)), (zaI aTp cTp 100 fTp), (zaI eC ceC 100 feC)] ∧ Gs sK sV (va_A [(zo7iirrrririii bl esg (nI ecl) eW eA eE eC (nI ecd) aTp (nI ez) (nI ep) (nI em)), (zaI aTp cTp 100 fTp), (zaI eC ceC 100 feC)] sz) U)) (va_Qi (fun (r : Int32) (u : (Nat) × (Nat) × (Nat) × (Nat → Int32)) => match u with | (ecd9, ep9, em9, feC9) => (r = 1 ∧ ∃ L0 : List Nat, pFac ss 2 ep = (some L0, ep9) ∧ ep + 3 ≤ ep9 ∧ ep9 ≤ ez ∧ em9 ≤ 99 ∧ L0.length + ep ≤ ep9 ∧ XT feC9 ecd9 (kt ++ L0) ep9 ∧ ∀ k0, k0 < 100 → okC (feC9 k0)) ∨ (r = 0 ∧ pFac ss 2 ep = (none, ep9) ∧ ep9 ≤ ez + 2 ∧ em9 ≤ 99 ∧ ecd9 ≤ 100 ∧ ∀ k0, k0 < 100 → okC (feC9 k0))) (fun (u : (Nat) × (Nat) × (Nat) × (Nat → Int32)) (t : State) => match u with | (ecd9, ep9, em9, feC9) => va_P (dC, dI) vwCl [(zo7iirrrririii bl esg (nI ecl) eW eA eE eC (nI ecd9) aTp (nI ez) (nI ep9) (nI em9)), (zaI aTp cTp 100 fTp), (zaI eC ceC 100 feC9)] t.heap ∧ va_K (dC, dI) vwCl [(cTp, .int), (ceC, .int)] t ∧ va_D (va_A [(zo7iirrrririii bl esg (nI ecl) eW eA eE eC (nI ecd) aTp (nI ez) (nI ep) (nI em)), (zaI aTp cTp 100 fTp), (zaI eC ceC 100 feC)] sz) [(zo7iirrrririii bl esg (nI ecl) eW eA eE eC (nI ecd9) aTp (nI ez) (nI ep9) (nI em9)), (zaI aTp cTp 100 fTp), (zaI eC ceC 100 feC9)]) (va_A [(zo7iirrrririii bl esg (nI ecl) eW eA eE eC (nI ecd) aTp (nI ez) (nI ep) (nI em)), (zaI aTp cTp 100 fTp), (zaI eC ceC 100 feC)] sz)) 0 0 (va_A [(zo7iirrrririii bl esg (nI ecl) eW eA eE eC (nI ecd) aTp (nI ez) (nI ep) (nI em)), (zaI aTp cTp 100 fTp), (zaI eC ceC 100 feC)] sz) := by
  refine met_ofQ (cc := cX5_readPlain) (maxL := 3) (ret := (some .boolean)) (by decide) rfl ?_
  intro p e s m args below meth c s₁ Q B hml hv hQ
  obtain ⟨rfl, hsz, hP, hK, hD0, hE⟩ := hv
  have hx := B.exec
  have hb := B.bytes
  have hr := B.returns
  have hts := atoms_spec (ws := wsX5_readPlain) B.pre
  have hown : s.vm.findClass RX5 = some m.cls := findClass_of_methodNamed B.named
  have hlocks := B.notSynchronized
  subst hsz
  have hD := hD0.self (sz := s.heap.size)
  generalize hAe : va_A [(zo7iirrrririii bl esg (nI ecl) eW eA eE eC (nI ecd) aTp (nI ez) (nI ep) (nI em)), (zaI aTp cTp 100 fTp), (zaI eC ceC 100 feC)] s.heap.size = A at hD hQ hE ⊢
  have hA : ∀ q : Nat, s.heap.size ≤ q → A q := fun q h => by rw [← hAe]; exact Or.inr h
  have hS : va_S A s.heap s.heap [] := va_S.rf
  have hl := lv_entry [.ref bl, .int 3] (n := 3) (Nat.le_of_ble_eq_true rfl)
  rw [lg_entry_eq]
  generalize (lg_sl [.ref bl, .int 3] ++ List.replicate (3 - (lg_sl [.ref bl, .int 3]).length) Slot.unset).toArray = ls at hl ⊢
  generalize hag : ([.ref bl, .int 3] : List Value).toArray = args at hts hQ ⊢
  have hl : lv_has ls 3 [(0, .ref bl), (1, .int 3)] := hl
  obtain ⟨H, hH⟩ : ∃ H : Heap, H = s.heap := ⟨_, rfl⟩
  rw [← hH] at hP
  rw [← hH]
  have hS : va_S A s.heap H [] := by rw [hH]; exact hS
  obtain ⟨locs, hlo⟩ : ∃ L : List Loc, L = [] := ⟨_, rfl⟩
  rw [← hlo] at hS
  rw [← hlo]
  clear hH hlo
  refine lv_aload_n hx hb dX5_readPlain_0 rfl (lv_at hl 0 rfl) ?_
  have hPc := hP.sub (ws' := [(zo7iirrrririii bl esg (nI ecl) eW eA eE eC (nI ecd) aTp (nI ez) (nI ep) (nI em)), (zaI aTp cTp 100 fTp)]) [0, 1] rfl
  have hKc := hK.sub (tys' := [(cTp, .int)]) [0] rfl
  refine vp_callSi (va_runV (As := []) (rest := []) ⟨hx, hb, hml, hown, hts⟩ (c_xSign l dC dI bl aTp eW eA eE eC ecl ecd esg cTp fTp ez ep em ss (hez) (by omega) (gX)) (cwV 0 hts gX5_readPlain_X5_sign rfl rfl rfl hd_yX5_sign ⟨Nat.le_of_ble_eq_true rfl, Nat.le_of_ble_eq_true rfl⟩) ⟨fun a U g mk q => by obtain ⟨q0, qP, qK⟩ := q; exact ⟨q0, mvP g mk a qP, mvK g mk a qK⟩, va_recv hK hP (ci := 7) (q := (RX5, TX5, 11)) (q0 := 0) rfl rfl, fun U hU hW => ⟨rfl, by rw [hU]; exact hPc, va_K.moved hW.alike hKc⟩⟩ rfl rfl hl.1 rfl (lv_room (Nat.le_of_ble_eq_true rfl)) dX5_readPlain_1 ⟨Nat.le_of_ble_eq_true rfl, Nat.le_of_ble_eq_true rfl⟩).run (fun r_1 hw_2 => ?_)
  obtain rfl := hw_2
  have hs8 := gX.2.2 (ep)
  refine lv_istore_n (lv' := [(2, .int (nI (ss ep))), (0, .ref bl), (1, .int 3)]) hx hb dX5_readPlain_4 rfl hl (by decide) rfl (fun ls hl => ?_)
  refine lv_iload_n hx hb dX5_readPlain_5 rfl (lv_at hl 0 rfl) ?_
  refine lv_bipush (v := 33) hx hb dX5_readPlain_6 (by decide) ?_
  refine lv_icmp_eq (tgt := 22) hx hb dX5_readPlain_8 (by decide) (fun c_3 => ?_) (fun c_3 => ?_)
  · skip
    have c_3 : (ss ep) = 33 := (nI_eq (a := (ss ep)) (b := 33) (by omega) (by omega)).mp c_3
    have hc : ss ep = 33 := c_3
    have hlt : ep < ez := Nat.lt_of_not_le (fun z => by have := gX.2.1 ep z; omega)
    refine lv_iload_n hx hb dX5_readPlain_22 rfl (lv_at hl 2 rfl) ?_
    refine lv_iconst (v := 5) hx hb dX5_readPlain_23 (by decide) ?_
    refine lv_icmp_lt (tgt := 29) hx hb dX5_readPlain_24 (by decide) (fun _ => ?_) (fun c_4 => absurd c_4 (by decide))
    refine lv_aload_n hx hb dX5_readPlain_29 rfl (lv_at hl 1 rfl) ?_
    refine lv_dup hx hb dX5_readPlain_30 rfl ?_
    refine va_get (D := (dC, dI)) (ci := 7) (v := .int (nI ep)) (C := RX5) (T := TX5) (N := 11) hx hb hts kc_xPlain3_0 hown hK hP 0 rfl rfl 9 (by decide) (hts (.fieldLink RX5 34 "MistHeaps$Hill" "at" "I") kc_xPlain3_1) (fun _ h9 => h9) rfl dX5_readPlain_31 ?_
    refine lv_iconst (v := 1) hx hb dX5_readPlain_34 (by decide) ?_
    refine lv_iadd hx hb dX5_readPlain_35 ?_
    refine qi_as (y := nI (ep + 1)) (nI_add ep 1) ?_
    refine va_put (D := (dC, dI)) (ci := 7) (v := .int (nI (ep + 1))) (ty := .int) (C := RX5) (T := TX5) (N := 11) hx hb hts kc_xPlain3_0 tyX5 tyX5_ok nmX5 hown hK hP hD hS 0 rfl rfl 9 (by decide) (hts (.fieldLink RX5 34 "MistHeaps$Hill" "at" "I") kc_xPlain3_1) (fun _ h9 => h9) rfl (by decide +kernel) rfl rfl (Nat.le_of_ble_eq_true rfl) dX5_readPlain_36 (fun H locs hP hD hS => ?_)
    have hP : va_P (dC, dI) vwCl [(zo7iirrrririii bl esg (nI ecl) eW eA eE eC (nI ecd) aTp (nI ez) (nI (ep + 1)) (nI em)), (zaI aTp cTp 100 fTp), (zaI eC ceC 100 feC)] H := hP
    have hD : va_D A [(zo7iirrrririii bl esg (nI ecl) eW eA eE eC (nI ecd) aTp (nI ez) (nI (ep + 1)) (nI em)), (zaI aTp cTp 100 fTp), (zaI eC ceC 100 feC)] := hD
    refine lv_iload_n hx hb dX5_readPlain_39 rfl (lv_at hl 0 rfl) ?_
    refine lv_bipush (v := 40) hx hb dX5_readPlain_40 (by decide) ?_
    refine lv_icmp_ne (tgt := 70) hx hb dX5_readPlain_42 (by decide) (fun c_5 => ?_) (fun c_5 => absurd c_5 (fun z9 => absurd ((nI_eq (a := ss ep) (b := 40) (by omega) (by omega)).mp z9) (by omega)))
    have c_5 : ¬ (ss ep) = 40 := fun q => c_5 ((nI_eq (a := (ss ep)) (b := 40) (by omega) (by omega)).mpr q)
    refine lv_aload_n hx hb dX5_readPlain_70 rfl (lv_at hl 1 rfl) ?_
    refine lv_iload_n hx hb dX5_readPlain_71 rfl (lv_at hl 2 rfl) ?_
    refine lv_iconst (v := 1) hx hb dX5_readPlain_72 (by decide) ?_
    refine lv_iadd hx hb dX5_readPlain_73 ?_
    refine qi_as (y := 4) (by decide) ?_
    have hPc := hP.sub (ws' := [(zo7iirrrririii bl esg (nI ecl) eW eA eE eC (nI ecd) aTp (nI ez) (nI (ep + 1)) (nI em)), (zaI aTp cTp 100 fTp), (zaI eC ceC 100 feC)]) [0, 1, 2] rfl
    have hDc := hD.sub (ws' := [(zo7iirrrririii bl esg (nI ecl) eW eA eE eC (nI ecd) aTp (nI ez) (nI (ep + 1)) (nI em)), (zaI aTp cTp 100 fTp), (zaI eC ceC 100 feC)]) [0, 1, 2] (by decide) rfl
    have hKc := hK.sub (tys' := [(cTp, .int), (ceC, .int)]) [0, 1] rfl
    have hFc := va_free (wc := [(zo7iirrrririii bl esg (nI ecl) eW eA eE eC (nI ecd) aTp (nI ez) (nI (ep + 1)) (nI em)), (zaI aTp cTp 100 fTp), (zaI eC ceC 100 feC)]) hD hS hA [0, 1, 2] rfl
    refine va_calli (va_runV (As := [.int 4]) (rest := []) ⟨hx, hb, hml, hown, hts⟩ (c_xPlain4 l dC dI sK sV bl aTp eW eA eE eC ecl ecd esg cTp ceC fTp feC ez (ep + 1) em ss kt H.size (hez) (by omega) (by omega) ((hXT).mono (by omega)) (zeC) (gX)) (cwV 1 hts gX5_readPlain_X5_readPlain rfl rfl rfl hd_yX5_readPlain ⟨Nat.le_of_ble_eq_true rfl, Nat.le_of_ble_eq_true rfl⟩) ⟨fun a U g mk q => by obtain ⟨q0, q1, qP, qK, qD, qhE⟩ := q; exact ⟨q0, mvz g mk a q1, mvP g mk a qP, mvK g mk a qK, qD, qhE.mv g mk a⟩, va_recv hK hP (ci := 7) (q := (RX5, TX5, 11)) (q0 := 0) rfl rfl, fun U hU hW => ⟨rfl, by rw [hU], by rw [hU]; exact hPc, va_K.moved hW.alike hKc, hDc.weaken (fun _ _ _ _ => trivial), hE.call hS hU hW (fun q h => hFc q h)⟩⟩ rfl rfl hl.1 rfl (lv_room (Nat.le_of_ble_eq_true rfl)) dX5_readPlain_74 ⟨Nat.le_of_ble_eq_true rfl, Nat.le_of_ble_eq_true rfl⟩) hS (fun q _ h => hFc q h) hFc (fun r_6 u tC H1 locs htC hvm hw_7 hB hz1 hk1 hS => ?_)
    obtain ⟨ecd9_8, ep9_9, em9_10, feC9_11⟩ := u
    try dsimp only at hw_7 hB
    obtain ⟨hP1, hK1, hD1⟩ := hB
    rw [htC] at hP1
    have hK1 := va_K.moved hvm.symm hK1
    obtain ⟨hP, hD⟩ := va_join (wr := []) (w1 := [(zo7iirrrririii bl esg (nI ecl) eW eA eE eC (nI ecd9_8) aTp (nI ez) (nI ep9_9) (nI em9_10)), (zaI aTp cTp 100 fTp), (zaI eC ceC 100 feC9_11)]) hP hD [0, 1, 2] [] rfl rfl (by decide) (by decide) hk1 hFc hP1 hD1
    have hK := (hK.sub (tys' := []) [] rfl).app hK1
    generalize H1 = H at hP hS ⊢
    have hP : va_P (dC, dI) vwCl [(zo7iirrrririii bl esg (nI ecl) eW eA eE eC (nI ecd9_8) aTp (nI ez) (nI ep9_9) (nI em9_10)), (zaI aTp cTp 100 fTp), (zaI eC ceC 100 feC9_11)] H := hP
    have hD : va_D A [(zo7iirrrririii bl esg (nI ecl) eW eA eE eC (nI ecd9_8) aTp (nI ez) (nI ep9_9) (nI em9_10)), (zaI aTp cTp 100 fTp), (zaI eC ceC 100 feC9_11)] := hD
    have hK : va_K (dC, dI) vwCl [(cTp, .int), (ceC, .int)] s := hK
    rcases hw_7 with ⟨rfl, L_12, eP_13, h_14, h_15, h_16, h_17, hX_19, hC_18⟩ | ⟨rfl, eP_13, h_14, h_15, h_16, hC_18⟩
    · skip
      refine lv_if_ne (tgt := 82) hx hb dX5_readPlain_77 (by decide) (fun _ => ?_) (fun c_20 => absurd c_20 (by decide))
      refine lv_aload_n hx hb dX5_readPlain_82 rfl (lv_at hl 1 rfl) ?_
      refine lv_iconst (v := (-1)) hx hb dX5_readPlain_83 (by decide) ?_
      have hPc := hP.sub (ws' := [(zo7iirrrririii bl esg (nI ecl) eW eA eE eC (nI ecd9_8) aTp (nI ez) (nI ep9_9) (nI em9_10)), (zaI eC ceC 100 feC9_11)]) [0, 2] rfl
      have hDc := hD.sub (ws' := [(zo7iirrrririii bl esg (nI ecl) eW eA eE eC (nI ecd9_8) aTp (nI ez) (nI ep9_9) (nI em9_10)), (zaI eC ceC 100 feC9_11)]) [0, 2] (by decide) rfl
      have hKc := hK.sub (tys' := [(ceC, .int)]) [1] rfl
      have hFc := va_free (wc := [(zo7iirrrririii bl esg (nI ecl) eW eA eE eC (nI ecd9_8) aTp (nI ez) (nI ep9_9) (nI em9_10)), (zaI eC ceC 100 feC9_11)]) hD hS hA [0, 2] rfl
      refine va_callv (va_runV (As := [.int (-1)]) (rest := []) ⟨hx, hb, hml, hown, hts⟩ (c_xCode l dC dI bl aTp eW eA eE eC ecl ecd9_8 (-1) esg ceC feC9_11 ez ep9_9 em9_10 (kt ++ L_12) 1801 H.size ((hX_19).mono (by omega)) (by have h6 := (hX_19).1; have h7 := (hX_19).2.1; have h8 := hXT.1; have h9 := hXT.2.1; (try simp only [List.length_append] at h6); omega) (hC_18) (Or.inl rfl) (by decide)) (cwV 1 hts gX5_readPlain_X5_code rfl rfl rfl hd_yX5_code ⟨Nat.le_of_ble_eq_true rfl, Nat.le_of_ble_eq_true rfl⟩) ⟨fun a U g mk q => by obtain ⟨q0, q1, qP, qK, qD⟩ := q; exact ⟨q0, mvz g mk a q1, mvP g mk a qP, mvK g mk a qK, qD⟩, va_recv hK hP (ci := 7) (q := (RX5, TX5, 11)) (q0 := 0) rfl rfl, fun U hU hW => ⟨rfl, by rw [hU], by rw [hU]; exact hPc, va_K.moved hW.alike hKc, hDc.weaken (fun _ _ _ _ => trivial)⟩⟩ rfl rfl hl.1 rfl (lv_room (Nat.le_of_ble_eq_true rfl)) dX5_readPlain_84 ⟨Nat.le_of_ble_eq_true rfl, Nat.le_of_ble_eq_true rfl⟩) hS (fun q _ h => hFc q h) hFc (fun u tC H1 locs htC hvm hw_22 hB hz1 hk1 hS => ?_)
      obtain ⟨ecd9_23, feC9_24⟩ := u
      try dsimp only at hw_22 hB
      obtain ⟨hP1, hK1, hD1⟩ := hB
      rw [htC] at hP1
      have hK1 := va_K.moved hvm.symm hK1
      obtain ⟨hP, hD⟩ := va_join (wr := [(zaI aTp cTp 100 fTp)]) (w1 := [(zo7iirrrririii bl esg (nI ecl) eW eA eE eC (nI ecd9_23) aTp (nI ez) (nI ep9_9) (nI em9_10)), (zaI eC ceC 100 feC9_24)]) hP hD [0, 2] [1] rfl rfl (by decide) (by decide) hk1 hFc hP1 hD1
      have hK := (hK.sub (tys' := [(cTp, .int)]) [0] rfl).app hK1
      generalize H1 = H at hP hS ⊢
      have hP : va_P (dC, dI) vwCl [(zaI aTp cTp 100 fTp), (zo7iirrrririii bl esg (nI ecl) eW eA eE eC (nI ecd9_23) aTp (nI ez) (nI ep9_9) (nI em9_10)), (zaI eC ceC 100 feC9_24)] H := hP
      have hD : va_D A [(zaI aTp cTp 100 fTp), (zo7iirrrririii bl esg (nI ecl) eW eA eE eC (nI ecd9_23) aTp (nI ez) (nI ep9_9) (nI em9_10)), (zaI eC ceC 100 feC9_24)] := hD
      have hK : va_K (dC, dI) vwCl [(cTp, .int), (ceC, .int)] s := hK
      obtain ⟨e_25, hC_26, h_27⟩ := hw_22
      obtain rfl := (e_25).symm
      have hX_28 : XT feC9_24 (ecd9_8 + 1) ((kt ++ L_12) ++ [1801]) (ep9_9) := ⟨by rw [List.length_append, (hX_19).1]; rfl, by have h6 := (hX_19).1; have h7 := (hX_19).2.1; have h8 := hXT.1; have h9 := hXT.2.1; (try simp only [List.length_append] at h6); omega, h_27⟩
      refine lv_iconst (v := 1) hx hb dX5_readPlain_87 (by decide) ?_
      rw [hQ]
      have hP9 := hP.sub (ws' := [(zo7iirrrririii bl esg (nI ecl) eW eA eE eC (nI (ecd9_8 + 1)) aTp (nI ez) (nI ep9_9) (nI em9_10)), (zaI aTp cTp 100 fTp), (zaI eC ceC 100 feC9_24)]) [1, 0, 2] rfl
      have hD9 := hD.sub (ws' := [(zo7iirrrririii bl esg (nI ecl) eW eA eE eC (nI (ecd9_8 + 1)) aTp (nI ez) (nI ep9_9) (nI em9_10)), (zaI aTp cTp 100 fTp), (zaI eC ceC 100 feC9_24)]) [1, 0, 2] (by decide) rfl
      have hK9 := hK.sub (tys' := [(cTp, .int), (ceC, .int)]) [0, 1] rfl
      exact W.zret (v := 1) hx hb hr rfl (fun tQ htQ hWQ => ⟨⟨1, ((ecd9_8 + 1), ep9_9, em9_10, feC9_24), rfl, Or.inl ⟨rfl, (L_12 ++ [1801]), pf_n1 (l := 1) hc eP_13, by omega, by omega, by omega, by (try simp only [List.length_append, List.length_cons, List.length_nil]); omega, XT.as ((hX_28).mono (by omega)), hC_26⟩, by rw [htQ]; exact hP9, va_K.moved hWQ.alike hK9, hD9⟩, hS.F htQ⟩) hS.2.2 dX5_readPlain_88
    · skip
      refine lv_if_ne (tgt := 82) hx hb dX5_readPlain_77 (by decide) (fun c_29 => absurd c_29 (by decide)) (fun _ => ?_)
      refine lv_iconst (v := 0) hx hb dX5_readPlain_80 (by decide) ?_
      rw [hQ]
      have hP9 := hP.sub (ws' := [(zo7iirrrririii bl esg (nI ecl) eW eA eE eC (nI ecd9_8) aTp (nI ez) (nI ep9_9) (nI em9_10)), (zaI aTp cTp 100 fTp), (zaI eC ceC 100 feC9_11)]) [0, 1, 2] rfl
      have hD9 := hD.sub (ws' := [(zo7iirrrririii bl esg (nI ecl) eW eA eE eC (nI ecd9_8) aTp (nI ez) (nI ep9_9) (nI em9_10)), (zaI aTp cTp 100 fTp), (zaI eC ceC 100 feC9_11)]) [0, 1, 2] (by decide) rfl
      have hK9 := hK.sub (tys' := [(cTp, .int), (ceC, .int)]) [0, 1] rfl
      exact W.zret (v := 0) hx hb hr rfl (fun tQ htQ hWQ => ⟨⟨0, (ecd9_8, ep9_9, em9_10, feC9_11), rfl, Or.inr ⟨rfl, pf_n0 (l := 1) hc eP_13, by omega, by omega, by first | omega | (have := (hXT).2.1; omega), hC_18⟩, by rw [htQ]; exact hP9, va_K.moved hWQ.alike hK9, hD9⟩, hS.F htQ⟩) hS.2.2 dX5_readPlain_81
  · skip
    have c_3 : ¬ (ss ep) = 33 := fun q => c_3 ((nI_eq (a := (ss ep)) (b := 33) (by omega) (by omega)).mpr q)
    have hn33 : ¬ ss ep = 33 := c_3
    refine lv_iload_n hx hb dX5_readPlain_11 rfl (lv_at hl 0 rfl) ?_
    refine lv_bipush (v := 40) hx hb dX5_readPlain_12 (by decide) ?_
    refine lv_icmp_eq (tgt := 22) hx hb dX5_readPlain_14 (by decide) (fun c_30 => ?_) (fun c_30 => ?_)
    · skip
      have c_30 : (ss ep) = 40 := (nI_eq (a := (ss ep)) (b := 40) (by omega) (by omega)).mp c_30
      have hc : ss ep = 40 := c_30
      have hlt : ep < ez := Nat.lt_of_not_le (fun z => by have := gX.2.1 ep z; omega)
      refine lv_iload_n hx hb dX5_readPlain_22 rfl (lv_at hl 2 rfl) ?_
      refine lv_iconst (v := 5) hx hb dX5_readPlain_23 (by decide) ?_
      refine lv_icmp_lt (tgt := 29) hx hb dX5_readPlain_24 (by decide) (fun _ => ?_) (fun c_31 => absurd c_31 (by decide))
      refine lv_aload_n hx hb dX5_readPlain_29 rfl (lv_at hl 1 rfl) ?_
      refine lv_dup hx hb dX5_readPlain_30 rfl ?_
      refine va_get (D := (dC, dI)) (ci := 7) (v := .int (nI ep)) (C := RX5) (T := TX5) (N := 11) hx hb hts kc_xPlain3_0 hown hK hP 0 rfl rfl 9 (by decide) (hts (.fieldLink RX5 34 "MistHeaps$Hill" "at" "I") kc_xPlain3_1) (fun _ h9 => h9) rfl dX5_readPlain_31 ?_
      refine lv_iconst (v := 1) hx hb dX5_readPlain_34 (by decide) ?_
      refine lv_iadd hx hb dX5_readPlain_35 ?_
      refine qi_as (y := nI (ep + 1)) (nI_add ep 1) ?_
      refine va_put (D := (dC, dI)) (ci := 7) (v := .int (nI (ep + 1))) (ty := .int) (C := RX5) (T := TX5) (N := 11) hx hb hts kc_xPlain3_0 tyX5 tyX5_ok nmX5 hown hK hP hD hS 0 rfl rfl 9 (by decide) (hts (.fieldLink RX5 34 "MistHeaps$Hill" "at" "I") kc_xPlain3_1) (fun _ h9 => h9) rfl (by decide +kernel) rfl rfl (Nat.le_of_ble_eq_true rfl) dX5_readPlain_36 (fun H locs hP hD hS => ?_)
      have hP : va_P (dC, dI) vwCl [(zo7iirrrririii bl esg (nI ecl) eW eA eE eC (nI ecd) aTp (nI ez) (nI (ep + 1)) (nI em)), (zaI aTp cTp 100 fTp), (zaI eC ceC 100 feC)] H := hP
      have hD : va_D A [(zo7iirrrririii bl esg (nI ecl) eW eA eE eC (nI ecd) aTp (nI ez) (nI (ep + 1)) (nI em)), (zaI aTp cTp 100 fTp), (zaI eC ceC 100 feC)] := hD
      refine lv_iload_n hx hb dX5_readPlain_39 rfl (lv_at hl 0 rfl) ?_
      refine lv_bipush (v := 40) hx hb dX5_readPlain_40 (by decide) ?_
      refine lv_icmp_ne (tgt := 70) hx hb dX5_readPlain_42 (by decide) (fun c_32 => absurd c_32 (fun z9 => z9 ((nI_eq (a := ss ep) (b := 40) (by omega) (by omega)).mpr hc))) (fun c_32 => ?_)
      have c_32 : (ss ep) = 40 := (nI_eq (a := (ss ep)) (b := 40) (by omega) (by omega)).mp c_32
      refine lv_aload_n hx hb dX5_readPlain_45 rfl (lv_at hl 1 rfl) ?_
      refine lv_iload_n hx hb dX5_readPlain_46 rfl (lv_at hl 2 rfl) ?_
      refine lv_iconst (v := 1) hx hb dX5_readPlain_47 (by decide) ?_
      refine lv_iadd hx hb dX5_readPlain_48 ?_
      refine qi_as (y := 4) (by decide) ?_
      have hPc := hP.sub (ws' := [(zo7iirrrririii bl esg (nI ecl) eW eA eE eC (nI ecd) aTp (nI ez) (nI (ep + 1)) (nI em)), (zaI aTp cTp 100 fTp), (zaI eC ceC 100 feC)]) [0, 1, 2] rfl
      have hDc := hD.sub (ws' := [(zo7iirrrririii bl esg (nI ecl) eW eA eE eC (nI ecd) aTp (nI ez) (nI (ep + 1)) (nI em)), (zaI aTp cTp 100 fTp), (zaI eC ceC 100 feC)]) [0, 1, 2] (by decide) rfl
      have hKc := hK.sub (tys' := [(cTp, .int), (ceC, .int)]) [0, 1] rfl
      have hFc := va_free (wc := [(zo7iirrrririii bl esg (nI ecl) eW eA eE eC (nI ecd) aTp (nI ez) (nI (ep + 1)) (nI em)), (zaI aTp cTp 100 fTp), (zaI eC ceC 100 feC)]) hD hS hA [0, 1, 2] rfl
      refine va_calli (va_runV (As := [.int 4]) (rest := []) ⟨hx, hb, hml, hown, hts⟩ (c_xEither4 l dC dI sK sV bl aTp eW eA eE eC ecl ecd esg cTp ceC fTp feC ez (ep + 1) em ss kt H.size (hez) (by omega) (by omega) ((hXT).mono (by omega)) (zeC) (gX)) (cwV 1 hts gX5_readPlain_X5_readEither rfl rfl rfl hd_yX5_readEither ⟨Nat.le_of_ble_eq_true rfl, Nat.le_of_ble_eq_true rfl⟩) ⟨fun a U g mk q => by obtain ⟨q0, q1, qP, qK, qD, qhE⟩ := q; exact ⟨q0, mvz g mk a q1, mvP g mk a qP, mvK g mk a qK, qD, qhE.mv g mk a⟩, va_recv hK hP (ci := 7) (q := (RX5, TX5, 11)) (q0 := 0) rfl rfl, fun U hU hW => ⟨rfl, by rw [hU], by rw [hU]; exact hPc, va_K.moved hW.alike hKc, hDc.weaken (fun _ _ _ _ => trivial), hE.call hS hU hW (fun q h => hFc q h)⟩⟩ rfl rfl hl.1 rfl (lv_room (Nat.le_of_ble_eq_true rfl)) dX5_readPlain_49 ⟨Nat.le_of_ble_eq_true rfl, Nat.le_of_ble_eq_true rfl⟩) hS (fun q _ h => hFc q h) hFc (fun r_33 u tC H1 locs htC hvm hw_34 hB hz1 hk1 hS => ?_)
      obtain ⟨ecd9_35, ep9_36, em9_37, feC9_38⟩ := u
      try dsimp only at hw_34 hB
      obtain ⟨hP1, hK1, hD1⟩ := hB
      rw [htC] at hP1
      have hK1 := va_K.moved hvm.symm hK1
      obtain ⟨hP, hD⟩ := va_join (wr := []) (w1 := [(zo7iirrrririii bl esg (nI ecl) eW eA eE eC (nI ecd9_35) aTp (nI ez) (nI ep9_36) (nI em9_37)), (zaI aTp cTp 100 fTp), (zaI eC ceC 100 feC9_38)]) hP hD [0, 1, 2] [] rfl rfl (by decide) (by decide) hk1 hFc hP1 hD1
      have hK := (hK.sub (tys' := []) [] rfl).app hK1
      generalize H1 = H at hP hS ⊢
      have hP : va_P (dC, dI) vwCl [(zo7iirrrririii bl esg (nI ecl) eW eA eE eC (nI ecd9_35) aTp (nI ez) (nI ep9_36) (nI em9_37)), (zaI aTp cTp 100 fTp), (zaI eC ceC 100 feC9_38)] H := hP
      have hD : va_D A [(zo7iirrrririii bl esg (nI ecl) eW eA eE eC (nI ecd9_35) aTp (nI ez) (nI ep9_36) (nI em9_37)), (zaI aTp cTp 100 fTp), (zaI eC ceC 100 feC9_38)] := hD
      have hK : va_K (dC, dI) vwCl [(cTp, .int), (ceC, .int)] s := hK
      rcases hw_34 with ⟨rfl, L_39, eP_40, h_41, h_42, h_43, h_44, hX_46, hC_45⟩ | ⟨rfl, eP_40, h_41, h_42, h_43, hC_45⟩
      · skip
        refine lv_if_eq (tgt := 68) hx hb dX5_readPlain_52 (by decide) (fun c_47 => absurd c_47 (by decide)) (fun _ => ?_)
        refine lv_aload_n hx hb dX5_readPlain_55 rfl (lv_at hl 1 rfl) ?_
        refine lv_bipush (v := 41) hx hb dX5_readPlain_56 (by decide) ?_
        have hPc := hP.sub (ws' := [(zo7iirrrririii bl esg (nI ecl) eW eA eE eC (nI ecd9_35) aTp (nI ez) (nI ep9_36) (nI em9_37)), (zaI aTp cTp 100 fTp)]) [0, 1] rfl
        have hDc := hD.sub (ws' := [(zo7iirrrririii bl esg (nI ecl) eW eA eE eC (nI ecd9_35) aTp (nI ez) (nI ep9_36) (nI em9_37)), (zaI aTp cTp 100 fTp)]) [0, 1] (by decide) rfl
        have hKc := hK.sub (tys' := [(cTp, .int)]) [0] rfl
        have hFc := va_free (wc := [(zo7iirrrririii bl esg (nI ecl) eW eA eE eC (nI ecd9_35) aTp (nI ez) (nI ep9_36) (nI em9_37)), (zaI aTp cTp 100 fTp)]) hD hS hA [0, 1] rfl
        refine va_calli (va_runV (As := [.int 41]) (rest := []) ⟨hx, hb, hml, hown, hts⟩ (c_xReadSign l dC dI bl aTp eW eA eE eC 41 ecl ecd9_35 esg cTp fTp ez ep9_36 em9_37 ss H.size (hez) (by omega) (by decide) (by decide) (gX)) (cwV 1 hts gX5_readPlain_X5_readSign rfl rfl rfl hd_yX5_readSign ⟨Nat.le_of_ble_eq_true rfl, Nat.le_of_ble_eq_true rfl⟩) ⟨fun a U g mk q => by obtain ⟨q0, q1, qP, qK, qD⟩ := q; exact ⟨q0, mvz g mk a q1, mvP g mk a qP, mvK g mk a qK, qD⟩, va_recv hK hP (ci := 7) (q := (RX5, TX5, 11)) (q0 := 0) rfl rfl, fun U hU hW => ⟨rfl, by rw [hU], by rw [hU]; exact hPc, va_K.moved hW.alike hKc, hDc.weaken (fun _ _ _ _ => trivial)⟩⟩ rfl rfl hl.1 rfl (lv_room (Nat.le_of_ble_eq_true rfl)) dX5_readPlain_58 ⟨Nat.le_of_ble_eq_true rfl, Nat.le_of_ble_eq_true rfl⟩) hS (fun q _ h => hFc q h) hFc (fun r_48 u tC H1 locs htC hvm hw_49 hB hz1 hk1 hS => ?_)
        obtain ⟨ep9_50, rfl⟩ : ∃ z, z = u := ⟨_, rfl⟩
        try dsimp only at hw_49 hB
        obtain ⟨hP1, hK1, hD1⟩ := hB
        rw [htC] at hP1
        have hK1 := va_K.moved hvm.symm hK1
        obtain ⟨hP, hD⟩ := va_join (wr := [(zaI eC ceC 100 feC9_38)]) (w1 := [(zo7iirrrririii bl esg (nI ecl) eW eA eE eC (nI ecd9_35) aTp (nI ez) (nI ep9_50) (nI em9_37)), (zaI aTp cTp 100 fTp)]) hP hD [0, 1] [2] rfl rfl (by decide) (by decide) hk1 hFc hP1 hD1
        have hK := (hK.sub (tys' := [(ceC, .int)]) [1] rfl).app hK1
        generalize H1 = H at hP hS ⊢
        have hP : va_P (dC, dI) vwCl [(zaI eC ceC 100 feC9_38), (zo7iirrrririii bl esg (nI ecl) eW eA eE eC (nI ecd9_35) aTp (nI ez) (nI ep9_50) (nI em9_37)), (zaI aTp cTp 100 fTp)] H := hP
        have hD : va_D A [(zaI eC ceC 100 feC9_38), (zo7iirrrririii bl esg (nI ecl) eW eA eE eC (nI ecd9_35) aTp (nI ez) (nI ep9_50) (nI em9_37)), (zaI aTp cTp 100 fTp)] := hD
        have hK : va_K (dC, dI) vwCl [(ceC, .int), (cTp, .int)] s := hK
        rcases hw_49 with ⟨rfl, hy41, h_51, e_52⟩ | ⟨rfl, hn41, e_52⟩
        · skip
          obtain rfl := (e_52).symm
          refine lv_if_eq (tgt := 68) hx hb dX5_readPlain_61 (by decide) (fun c_53 => absurd c_53 (by decide)) (fun _ => ?_)
          refine lv_iconst (v := 1) hx hb dX5_readPlain_64 (by decide) ?_
          refine lv_goto (tgt := 69) hx hb dX5_readPlain_65 (by decide) ?_
          rw [hQ]
          have hP9 := hP.sub (ws' := [(zo7iirrrririii bl esg (nI ecl) eW eA eE eC (nI ecd9_35) aTp (nI ez) (nI (ep9_36 + 1)) (nI em9_37)), (zaI aTp cTp 100 fTp), (zaI eC ceC 100 feC9_38)]) [1, 2, 0] rfl
          have hD9 := hD.sub (ws' := [(zo7iirrrririii bl esg (nI ecl) eW eA eE eC (nI ecd9_35) aTp (nI ez) (nI (ep9_36 + 1)) (nI em9_37)), (zaI aTp cTp 100 fTp), (zaI eC ceC 100 feC9_38)]) [1, 2, 0] (by decide) rfl
          have hK9 := hK.sub (tys' := [(cTp, .int), (ceC, .int)]) [1, 0] rfl
          exact W.zret (v := 1) hx hb hr rfl (fun tQ htQ hWQ => ⟨⟨1, (ecd9_35, (ep9_36 + 1), em9_37, feC9_38), rfl, Or.inl ⟨rfl, L_39, pf_b2 (l := 1) hc eP_40 hy41, by omega, by omega, by omega, by (try simp only [List.length_append, List.length_cons, List.length_nil]); omega, (hX_46).mono (by omega), hC_45⟩, by rw [htQ]; exact hP9, va_K.moved hWQ.alike hK9, hD9⟩, hS.F htQ⟩) hS.2.2 dX5_readPlain_69
        · skip
          obtain rfl := (e_52).symm
          refine lv_if_eq (tgt := 68) hx hb dX5_readPlain_61 (by decide) (fun _ => ?_) (fun c_54 => absurd c_54 (by decide))
          refine lv_iconst (v := 0) hx hb dX5_readPlain_68 (by decide) ?_
          rw [hQ]
          have hP9 := hP.sub (ws' := [(zo7iirrrririii bl esg (nI ecl) eW eA eE eC (nI ecd9_35) aTp (nI ez) (nI ep9_36) (nI em9_37)), (zaI aTp cTp 100 fTp), (zaI eC ceC 100 feC9_38)]) [1, 2, 0] rfl
          have hD9 := hD.sub (ws' := [(zo7iirrrririii bl esg (nI ecl) eW eA eE eC (nI ecd9_35) aTp (nI ez) (nI ep9_36) (nI em9_37)), (zaI aTp cTp 100 fTp), (zaI eC ceC 100 feC9_38)]) [1, 2, 0] (by decide) rfl
          have hK9 := hK.sub (tys' := [(cTp, .int), (ceC, .int)]) [1, 0] rfl
          exact W.zret (v := 0) hx hb hr rfl (fun tQ htQ hWQ => ⟨⟨0, (ecd9_35, ep9_36, em9_37, feC9_38), rfl, Or.inr ⟨rfl, pf_b1 (l := 1) hc eP_40 hn41, by omega, by omega, by first | omega | (have := (hX_46).2.1; omega), hC_45⟩, by rw [htQ]; exact hP9, va_K.moved hWQ.alike hK9, hD9⟩, hS.F htQ⟩) hS.2.2 dX5_readPlain_69
      · skip
        refine lv_if_eq (tgt := 68) hx hb dX5_readPlain_52 (by decide) (fun _ => ?_) (fun c_55 => absurd c_55 (by decide))
        refine lv_iconst (v := 0) hx hb dX5_readPlain_68 (by decide) ?_
        rw [hQ]
        have hP9 := hP.sub (ws' := [(zo7iirrrririii bl esg (nI ecl) eW eA eE eC (nI ecd9_35) aTp (nI ez) (nI ep9_36) (nI em9_37)), (zaI aTp cTp 100 fTp), (zaI eC ceC 100 feC9_38)]) [0, 1, 2] rfl
        have hD9 := hD.sub (ws' := [(zo7iirrrririii bl esg (nI ecl) eW eA eE eC (nI ecd9_35) aTp (nI ez) (nI ep9_36) (nI em9_37)), (zaI aTp cTp 100 fTp), (zaI eC ceC 100 feC9_38)]) [0, 1, 2] (by decide) rfl
        have hK9 := hK.sub (tys' := [(cTp, .int), (ceC, .int)]) [0, 1] rfl
        exact W.zret (v := 0) hx hb hr rfl (fun tQ htQ hWQ => ⟨⟨0, (ecd9_35, ep9_36, em9_37, feC9_38), rfl, Or.inr ⟨rfl, pf_b0 (l := 1) hc eP_40, by omega, by omega, by first | omega | (have := (hXT).2.1; omega), hC_45⟩, by rw [htQ]; exact hP9, va_K.moved hWQ.alike hK9, hD9⟩, hS.F htQ⟩) hS.2.2 dX5_readPlain_69
    · skip
      have c_30 : ¬ (ss ep) = 40 := fun q => c_30 ((nI_eq (a := (ss ep)) (b := 40) (by omega) (by omega)).mpr q)
      have hn40 : ¬ ss ep = 40 := c_30
      refine lv_aload_n hx hb dX5_readPlain_17 rfl (lv_at hl 1 rfl) ?_
      have hPc := hP.sub (ws' := [(zo7iirrrririii bl esg (nI ecl) eW eA eE eC (nI ecd) aTp (nI ez) (nI ep) (nI em)), (zaI aTp cTp 100 fTp), (zaI eC ceC 100 feC)]) [0, 1, 2] rfl
      have hDc := hD.sub (ws' := [(zo7iirrrririii bl esg (nI ecl) eW eA eE eC (nI ecd) aTp (nI ez) (nI ep) (nI em)), (zaI aTp cTp 100 fTp), (zaI eC ceC 100 feC)]) [0, 1, 2] (by decide) rfl
      have hKc := hK.sub (tys' := [(cTp, .int), (ceC, .int)]) [0, 1] rfl
      have hFc := va_free (wc := [(zo7iirrrririii bl esg (nI ecl) eW eA eE eC (nI ecd) aTp (nI ez) (nI ep) (nI em)), (zaI aTp cTp 100 fTp), (zaI eC ceC 100 feC)]) hD hS hA [0, 1, 2] rfl
      refine va_calli (va_runV (As := []) (rest := []) ⟨hx, hb, hml, hown, hts⟩ (c_readTest l dC dI sK sV bl aTp eW eA eE eC ecl ecd esg cTp ceC fTp feC ez ep em ss kt H.size (hez) (by omega) (by omega) ((hXT).mono (by omega)) (zeC) (gX)) (cwV 0 hts gX5_readPlain_X5_readTest rfl rfl rfl hd_yX5_readTest ⟨Nat.le_of_ble_eq_true rfl, Nat.le_of_ble_eq_true rfl⟩) ⟨fun a U g mk q => by obtain ⟨q0, q1, qP, qK, qD, qhE⟩ := q; exact ⟨q0, mvz g mk a q1, mvP g mk a qP, mvK g mk a qK, qD, qhE.mv g mk a⟩, va_recv hK hP (ci := 7) (q := (RX5, TX5, 11)) (q0 := 0) rfl rfl, fun U hU hW => ⟨rfl, by rw [hU], by rw [hU]; exact hPc, va_K.moved hW.alike hKc, hDc.weaken (fun _ _ _ _ => trivial), hE.call hS hU hW (fun q h => hFc q h)⟩⟩ rfl rfl hl.1 rfl (lv_room (Nat.le_of_ble_eq_true rfl)) dX5_readPlain_18 ⟨Nat.le_of_ble_eq_true rfl, Nat.le_of_ble_eq_true rfl⟩) hS (fun q _ h => hFc q h) hFc (fun r_56 u tC H1 locs htC hvm hw_57 hB hz1 hk1 hS => ?_)
      obtain ⟨ecd9_58, ep9_59, em9_60, feC9_61⟩ := u
      try dsimp only at hw_57 hB
      obtain ⟨hP1, hK1, hD1⟩ := hB
      rw [htC] at hP1
      have hK1 := va_K.moved hvm.symm hK1
      obtain ⟨hP, hD⟩ := va_join (wr := []) (w1 := [(zo7iirrrririii bl esg (nI ecl) eW eA eE eC (nI ecd9_58) aTp (nI ez) (nI ep9_59) (nI em9_60)), (zaI aTp cTp 100 fTp), (zaI eC ceC 100 feC9_61)]) hP hD [0, 1, 2] [] rfl rfl (by decide) (by decide) hk1 hFc hP1 hD1
      have hK := (hK.sub (tys' := []) [] rfl).app hK1
      generalize H1 = H at hP hS ⊢
      have hP : va_P (dC, dI) vwCl [(zo7iirrrririii bl esg (nI ecl) eW eA eE eC (nI ecd9_58) aTp (nI ez) (nI ep9_59) (nI em9_60)), (zaI aTp cTp 100 fTp), (zaI eC ceC 100 feC9_61)] H := hP
      have hD : va_D A [(zo7iirrrririii bl esg (nI ecl) eW eA eE eC (nI ecd9_58) aTp (nI ez) (nI ep9_59) (nI em9_60)), (zaI aTp cTp 100 fTp), (zaI eC ceC 100 feC9_61)] := hD
      have hK : va_K (dC, dI) vwCl [(cTp, .int), (ceC, .int)] s := hK
      rw [hQ]
      have hP9 := hP.sub (ws' := [(zo7iirrrririii bl esg (nI ecl) eW eA eE eC (nI ecd9_58) aTp (nI ez) (nI ep9_59) (nI em9_60)), (zaI aTp cTp 100 fTp), (zaI eC ceC 100 feC9_61)]) [0, 1, 2] rfl
      have hD9 := hD.sub (ws' := [(zo7iirrrririii bl esg (nI ecl) eW eA eE eC (nI ecd9_58) aTp (nI ez) (nI ep9_59) (nI em9_60)), (zaI aTp cTp 100 fTp), (zaI eC ceC 100 feC9_61)]) [0, 1, 2] (by decide) rfl
      have hK9 := hK.sub (tys' := [(cTp, .int), (ceC, .int)]) [0, 1] rfl
      exact W.zret (v := r_56) hx hb hr (by first | rfl | (rcases hw_57 with ⟨e9, _⟩ | ⟨e9, _⟩ <;> rw [e9] <;> rfl)) (fun tQ htQ hWQ => ⟨⟨r_56, (ecd9_58, ep9_59, em9_60, feC9_61), rfl, by rw [show pFac ss 2 ep = pTest ss ep from pf_t hn33 hn40]; exact hw_57, by rw [htQ]; exact hP9, va_K.moved hWQ.alike hK9, hD9⟩, hS.F htQ⟩) hS.2.2 dX5_readPlain_21

theorem kc_xBoth3_0 : ∀ w ∈ wsX50, w ∈ wsX5_readBoth := fun w h => List.mem_cons_of_mem _ (gin_wsX50 w h)
theorem kc_xBoth3_1 : (.fieldLink RX5 31 "MistHeaps$Hill" "size" "I" : Cond) ∈ wsX5_readBoth := kc_of 123 rfl rfl rfl
set_option maxHeartbeats 4000000 in
set_option maxRecDepth 100000 in
theorem c_xBoth3 (l : Launch) (dC : Nat → ClassId) (dI : Nat → Nat → Nat) (sK sV : Nat → Nat) (bl : Nat) (aTp : Nat) (eW : Nat) (eA : Nat) (eE : Nat) (eC : Nat) (ecl : Nat) (ecd : Nat) (esg : Int32) (cTp : ClassId) (ceC : ClassId) (fTp : Nat → Int32) (feC : Nat → Int32) (ez : Nat) (ep : Nat) (em : Nat) (ss : Nat → Nat) (kt : List Nat) (sz : Nat) (hez : ez ≤ 100) (hep : ep ≤ ez) (hem : em ≤ 99) (hXT : XT feC ecd kt ep) (zeC : ∀ k0, k0 < 100 → okC (feC k0)) (gX : TX fTp ez ss) : Met l yX5_readBoth wsX5_readBoth ({ frames := 12, cells := 0, slots := 0, locals := 267 } : Room) (va_Pc [.ref bl, .int 3] (fun U => U.heap.size = sz ∧ va_P (dC, dI) vwCl [(zo7iirrrririii bl esg (nI ecl) eW eA eE eC (nI ecd) aTp (nI ez) (nI ep) (nI em)), (zaI aTp cTp 100 fTp), (zaI eC ceC 100 feC)] U.heap ∧ va_K (dC, dI) vwCl [(cTp, .int), (ceC, .int)] U ∧ va_D (fun _ => True) [(zo7iirrrririii bl esg (nI ecl) eW eA eE eC (nI ecd) aTp (nI ez) (nI ep) (nI em)), (zaI aTp cTp 100 fTp), (zaI eC ceC 100 feC)] ∧ Gs sK sV (va_A [(zo7iirrrririii bl esg (nI ecl) eW eA eE eC (nI ecd) aTp (nI ez) (nI ep) (nI em)), (zaI aTp cTp 100 fTp), (zaI eC ceC 100 feC)] sz) U)) (va_Qi (fun (r : Int32) (u : (Nat) × (Nat) × (Nat) × (Nat → Int32)) => match u with | (ecd9, ep9, em9, feC9) => (r = 1 ∧ ∃ L0 : List Nat, pEv ss (pFac ss 2) ep = (some L0, ep9) ∧ ep + 3 ≤ ep9 ∧ ep9 ≤ ez ∧ em9 ≤ 99 ∧ L0.length + ep ≤ ep9 ∧ XT feC9 ecd9 (kt ++ L0) ep9 ∧ ∀ k0, k0 < 100 → okC (feC9 k0)) ∨ (r = 0 ∧ pEv ss (pFac ss 2) ep = (none, ep9) ∧ ep9 ≤ ez + 2 ∧ em9 ≤ 99 ∧ ecd9 ≤ 100 ∧ ∀ k0, k0 < 100 → okC (feC9 k0))) (fun (u : (Nat) × (Nat) × (Nat) × (Nat → Int32)) (t : State) => match u with | (ecd9, ep9, em9, feC9) => va_P (dC, dI) vwCl [(zo7iirrrririii bl esg (nI ecl) eW eA eE eC (nI ecd9) aTp (nI ez) (nI ep9) (nI em9)), (zaI aTp cTp 100 fTp), (zaI eC ceC 100 feC9)] t.heap ∧ va_K (dC, dI) vwCl [(cTp, .int), (ceC, .int)] t ∧ va_D (va_A [(zo7iirrrririii bl esg (nI ecl) eW eA eE eC (nI ecd) aTp (nI ez) (nI ep) (nI em)), (zaI aTp cTp 100 fTp), (zaI eC ceC 100 feC)] sz) [(zo7iirrrririii bl esg (nI ecl) eW eA eE eC (nI ecd9) aTp (nI ez) (nI ep9) (nI em9)), (zaI aTp cTp 100 fTp), (zaI eC ceC 100 feC9)]) (va_A [(zo7iirrrririii bl esg (nI ecl) eW eA eE eC (nI ecd) aTp (nI ez) (nI ep) (nI em)), (zaI aTp cTp 100 fTp), (zaI eC ceC 100 feC)] sz)) 0 0 (va_A [(zo7iirrrririii bl esg (nI ecl) eW eA eE eC (nI ecd) aTp (nI ez) (nI ep) (nI em)), (zaI aTp cTp 100 fTp), (zaI eC ceC 100 feC)] sz) := by
  refine met_ofQ (cc := cX5_readBoth) (maxL := 3) (ret := (some .boolean)) (by decide) rfl ?_
  intro p e s m args below meth c s₁ Q B hml hv hQ
  obtain ⟨rfl, hsz, hP, hK, hD0, hE⟩ := hv
  have hx := B.exec
  have hb := B.bytes
  have hr := B.returns
  have hts := atoms_spec (ws := wsX5_readBoth) B.pre
  have hown : s.vm.findClass RX5 = some m.cls := findClass_of_methodNamed B.named
  have hlocks := B.notSynchronized
  subst hsz
  have hD := hD0.self (sz := s.heap.size)
  generalize hAe : va_A [(zo7iirrrririii bl esg (nI ecl) eW eA eE eC (nI ecd) aTp (nI ez) (nI ep) (nI em)), (zaI aTp cTp 100 fTp), (zaI eC ceC 100 feC)] s.heap.size = A at hD hQ hE ⊢
  have hA : ∀ q : Nat, s.heap.size ≤ q → A q := fun q h => by rw [← hAe]; exact Or.inr h
  have hS : va_S A s.heap s.heap [] := va_S.rf
  have hl := lv_entry [.ref bl, .int 3] (n := 3) (Nat.le_of_ble_eq_true rfl)
  rw [lg_entry_eq]
  generalize (lg_sl [.ref bl, .int 3] ++ List.replicate (3 - (lg_sl [.ref bl, .int 3]).length) Slot.unset).toArray = ls at hl ⊢
  generalize hag : ([.ref bl, .int 3] : List Value).toArray = args at hts hQ ⊢
  have hl : lv_has ls 3 [(0, .ref bl), (1, .int 3)] := hl
  obtain ⟨H, hH⟩ : ∃ H : Heap, H = s.heap := ⟨_, rfl⟩
  rw [← hH] at hP
  rw [← hH]
  have hS : va_S A s.heap H [] := by rw [hH]; exact hS
  obtain ⟨locs, hlo⟩ : ∃ L : List Loc, L = [] := ⟨_, rfl⟩
  rw [← hlo] at hS
  rw [← hlo]
  clear hH hlo
  refine lv_aload_n hx hb dX5_readBoth_0 rfl (lv_at hl 0 rfl) ?_
  refine lv_iload_n hx hb dX5_readBoth_1 rfl (lv_at hl 1 rfl) ?_
  have hPc := hP.sub (ws' := [(zo7iirrrririii bl esg (nI ecl) eW eA eE eC (nI ecd) aTp (nI ez) (nI ep) (nI em)), (zaI aTp cTp 100 fTp), (zaI eC ceC 100 feC)]) [0, 1, 2] rfl
  have hDc := hD.sub (ws' := [(zo7iirrrririii bl esg (nI ecl) eW eA eE eC (nI ecd) aTp (nI ez) (nI ep) (nI em)), (zaI aTp cTp 100 fTp), (zaI eC ceC 100 feC)]) [0, 1, 2] (by decide) rfl
  have hKc := hK.sub (tys' := [(cTp, .int), (ceC, .int)]) [0, 1] rfl
  have hFc := va_free (wc := [(zo7iirrrririii bl esg (nI ecl) eW eA eE eC (nI ecd) aTp (nI ez) (nI ep) (nI em)), (zaI aTp cTp 100 fTp), (zaI eC ceC 100 feC)]) hD hS hA [0, 1, 2] rfl
  refine va_calli (va_runV (As := [.int 3]) (rest := []) ⟨hx, hb, hml, hown, hts⟩ (c_xPlain3 l dC dI sK sV bl aTp eW eA eE eC ecl ecd esg cTp ceC fTp feC ez ep em ss kt H.size (hez) (by omega) (by omega) ((hXT).mono (by omega)) (zeC) (gX)) (cwV 1 hts gX5_readBoth_X5_readPlain rfl rfl rfl hd_yX5_readPlain ⟨Nat.le_of_ble_eq_true rfl, Nat.le_of_ble_eq_true rfl⟩) ⟨fun a U g mk q => by obtain ⟨q0, q1, qP, qK, qD, qhE⟩ := q; exact ⟨q0, mvz g mk a q1, mvP g mk a qP, mvK g mk a qK, qD, qhE.mv g mk a⟩, va_recv hK hP (ci := 7) (q := (RX5, TX5, 11)) (q0 := 0) rfl rfl, fun U hU hW => ⟨rfl, by rw [hU], by rw [hU]; exact hPc, va_K.moved hW.alike hKc, hDc.weaken (fun _ _ _ _ => trivial), hE.call hS hU hW (fun q h => hFc q h)⟩⟩ rfl rfl hl.1 rfl (lv_room (Nat.le_of_ble_eq_true rfl)) dX5_readBoth_2 ⟨Nat.le_of_ble_eq_true rfl, Nat.le_of_ble_eq_true rfl⟩) hS (fun q _ h => hFc q h) hFc (fun r_1 u tC H1 locs htC hvm hw_2 hB hz1 hk1 hS => ?_)
  obtain ⟨ecd9_3, ep9_4, em9_5, feC9_6⟩ := u
  try dsimp only at hw_2 hB
  obtain ⟨hP1, hK1, hD1⟩ := hB
  rw [htC] at hP1
  have hK1 := va_K.moved hvm.symm hK1
  obtain ⟨hP, hD⟩ := va_join (wr := []) (w1 := [(zo7iirrrririii bl esg (nI ecl) eW eA eE eC (nI ecd9_3) aTp (nI ez) (nI ep9_4) (nI em9_5)), (zaI aTp cTp 100 fTp), (zaI eC ceC 100 feC9_6)]) hP hD [0, 1, 2] [] rfl rfl (by decide) (by decide) hk1 hFc hP1 hD1
  have hK := (hK.sub (tys' := []) [] rfl).app hK1
  generalize H1 = H at hP hS ⊢
  have hP : va_P (dC, dI) vwCl [(zo7iirrrririii bl esg (nI ecl) eW eA eE eC (nI ecd9_3) aTp (nI ez) (nI ep9_4) (nI em9_5)), (zaI aTp cTp 100 fTp), (zaI eC ceC 100 feC9_6)] H := hP
  have hD : va_D A [(zo7iirrrririii bl esg (nI ecl) eW eA eE eC (nI ecd9_3) aTp (nI ez) (nI ep9_4) (nI em9_5)), (zaI aTp cTp 100 fTp), (zaI eC ceC 100 feC9_6)] := hD
  have hK : va_K (dC, dI) vwCl [(cTp, .int), (ceC, .int)] s := hK
  rcases hw_2 with ⟨rfl, L_7, eP_8, h_9, h_10, h_11, h_12, hX_14, hC_13⟩ | ⟨rfl, eP_8, h_9, h_10, h_11, hC_13⟩
  · skip
    refine lv_if_ne (tgt := 10) hx hb dX5_readBoth_5 (by decide) (fun _ => ?_) (fun c_15 => absurd c_15 (by decide))
    refine lv_iconst (v := 0) hx hb dX5_readBoth_10 (by decide) ?_
    refine lv_istore_n (lv' := [(2, .int 0), (0, .ref bl), (1, .int 3)]) hx hb dX5_readBoth_11 rfl hl (by decide) rfl (fun ls hl => ?_)
    have L12 : ∀ (nF : Nat) (i : Nat) (ecd2 : Nat) (ep2 : Nat) (em2 : Nat) (feC2 : Nat → Int32) (L1 : List Nat) (m1 : Nat), ez - i < nF → (i ≤ ez) → (pEv ss (pFac ss 2) ep = pSep ss 38 1802 (pFac ss 2) m1 (some L1, ep2) ∧ 101 ≤ m1 + ep2) → (ep + 3 + 2 * i ≤ ep2 ∧ ep2 ≤ ez ∧ em2 ≤ 99) → (L1.length + ep ≤ ep2) → (XT feC2 ecd2 (kt ++ L1) ep2) → (∀ k0, k0 < 100 → okC (feC2 k0)) → ∀ (H : Heap) (locs : List Loc), va_K (dC, dI) vwCl [(cTp, .int), (ceC, .int)] s → va_P (dC, dI) vwCl [(zo7iirrrririii bl esg (nI ecl) eW eA eE eC (nI ecd2) aTp (nI ez) (nI ep2) (nI em2)), (zaI aTp cTp 100 fTp), (zaI eC ceC 100 feC2)] H → va_D A [(zo7iirrrririii bl esg (nI ecl) eW eA eE eC (nI ecd2) aTp (nI ez) (nI ep2) (nI em2)), (zaI aTp cTp 100 fTp), (zaI eC ceC 100 feC2)] → va_S A s.heap H locs → ∀ (ls : Array Slot), lv_has ls 3 [(0, .ref bl), (1, .int 3), (2, .int (nI i))] → W p l e ({ frames := 12, cells := 0, slots := 0, locals := 267 } : Room) s m args below meth c H locs 0 0 Q (F0 m 12 ls []) := by
      intro nF
      induction nF with
      | zero => intro i ecd2 ep2 em2 feC2 L1 m1 hm; exact absurd hm (Nat.not_lt_zero _)
      | succ nF ih12 =>
        intro i ecd2 ep2 em2 feC2 L1 m1 hm hii hE9 hp2 hL2 hX2 zC2 H locs hK hP hD hS ls hl
        obtain ⟨hE9, hm9⟩ := hE9
        obtain ⟨hp2a, hp2b, hp2c⟩ := hp2
        refine lv_iload_n hx hb dX5_readBoth_12 rfl (lv_at hl 2 rfl) ?_
        refine lv_aload_n hx hb dX5_readBoth_13 rfl (lv_at hl 0 rfl) ?_
        refine va_get (D := (dC, dI)) (ci := 7) (v := .int (nI ez)) (C := RX5) (T := TX5) (N := 11) hx hb hts kc_xBoth3_0 hown hK hP 0 rfl rfl 8 (by decide) (hts (.fieldLink RX5 31 "MistHeaps$Hill" "size" "I") kc_xBoth3_1) (fun _ h9 => h9) rfl dX5_readBoth_14 ?_
        refine lv_icmp_ge (tgt := 51) hx hb dX5_readBoth_17 (by decide) (fun c_16 => ?_) (fun c_16 => ?_)
        · skip
          have c_16 : ez ≤ i := (nI_leI (a := ez) (b := i) (by omega) (by omega)).mp c_16
          refine lv_iconst (v := 1) hx hb dX5_readBoth_51 (by decide) ?_
          rw [hQ]
          have hP9 := hP.sub (ws' := [(zo7iirrrririii bl esg (nI ecl) eW eA eE eC (nI ecd2) aTp (nI ez) (nI ep2) (nI em2)), (zaI aTp cTp 100 fTp), (zaI eC ceC 100 feC2)]) [0, 1, 2] rfl
          have hD9 := hD.sub (ws' := [(zo7iirrrririii bl esg (nI ecl) eW eA eE eC (nI ecd2) aTp (nI ez) (nI ep2) (nI em2)), (zaI aTp cTp 100 fTp), (zaI eC ceC 100 feC2)]) [0, 1, 2] (by decide) rfl
          have hK9 := hK.sub (tys' := [(cTp, .int), (ceC, .int)]) [0, 1] rfl
          exact W.zret (v := 1) hx hb hr rfl (fun tQ htQ hWQ => ⟨⟨1, (ecd2, ep2, em2, feC2), rfl, Or.inl ⟨rfl, L1, hE9.trans (ps_end (fun z => by have := gX.2.1 ep2 (by omega); omega)), by omega, by omega, by omega, by (try simp only [List.length_append, List.length_cons, List.length_nil]); omega, hX2, zC2⟩, by rw [htQ]; exact hP9, va_K.moved hWQ.alike hK9, hD9⟩, hS.F htQ⟩) hS.2.2 dX5_readBoth_52
        · skip
          have c_16 : ¬ ez ≤ i := fun q => c_16 ((nI_leI (a := ez) (b := i) (by omega) (by omega)).mpr q)
          refine lv_aload_n hx hb dX5_readBoth_20 rfl (lv_at hl 0 rfl) ?_
          refine lv_bipush (v := 38) hx hb dX5_readBoth_21 (by decide) ?_
          have hPc := hP.sub (ws' := [(zo7iirrrririii bl esg (nI ecl) eW eA eE eC (nI ecd2) aTp (nI ez) (nI ep2) (nI em2)), (zaI aTp cTp 100 fTp)]) [0, 1] rfl
          have hDc := hD.sub (ws' := [(zo7iirrrririii bl esg (nI ecl) eW eA eE eC (nI ecd2) aTp (nI ez) (nI ep2) (nI em2)), (zaI aTp cTp 100 fTp)]) [0, 1] (by decide) rfl
          have hKc := hK.sub (tys' := [(cTp, .int)]) [0] rfl
          have hFc := va_free (wc := [(zo7iirrrririii bl esg (nI ecl) eW eA eE eC (nI ecd2) aTp (nI ez) (nI ep2) (nI em2)), (zaI aTp cTp 100 fTp)]) hD hS hA [0, 1] rfl
          refine va_calli (va_runV (As := [.int 38]) (rest := []) ⟨hx, hb, hml, hown, hts⟩ (c_xReadSign l dC dI bl aTp eW eA eE eC 38 ecl ecd2 esg cTp fTp ez ep2 em2 ss H.size (hez) (by omega) (by decide) (by decide) (gX)) (cwV 1 hts gX5_readBoth_X5_readSign rfl rfl rfl hd_yX5_readSign ⟨Nat.le_of_ble_eq_true rfl, Nat.le_of_ble_eq_true rfl⟩) ⟨fun a U g mk q => by obtain ⟨q0, q1, qP, qK, qD⟩ := q; exact ⟨q0, mvz g mk a q1, mvP g mk a qP, mvK g mk a qK, qD⟩, va_recv hK hP (ci := 7) (q := (RX5, TX5, 11)) (q0 := 0) rfl rfl, fun U hU hW => ⟨rfl, by rw [hU], by rw [hU]; exact hPc, va_K.moved hW.alike hKc, hDc.weaken (fun _ _ _ _ => trivial)⟩⟩ rfl rfl hl.1 rfl (lv_room (Nat.le_of_ble_eq_true rfl)) dX5_readBoth_23 ⟨Nat.le_of_ble_eq_true rfl, Nat.le_of_ble_eq_true rfl⟩) hS (fun q _ h => hFc q h) hFc (fun r_17 u tC H1 locs htC hvm hw_18 hB hz1 hk1 hS => ?_)
          obtain ⟨ep9_19, rfl⟩ : ∃ z, z = u := ⟨_, rfl⟩
          try dsimp only at hw_18 hB
          obtain ⟨hP1, hK1, hD1⟩ := hB
          rw [htC] at hP1
          have hK1 := va_K.moved hvm.symm hK1
          obtain ⟨hP, hD⟩ := va_join (wr := [(zaI eC ceC 100 feC2)]) (w1 := [(zo7iirrrririii bl esg (nI ecl) eW eA eE eC (nI ecd2) aTp (nI ez) (nI ep9_19) (nI em2)), (zaI aTp cTp 100 fTp)]) hP hD [0, 1] [2] rfl rfl (by decide) (by decide) hk1 hFc hP1 hD1
          have hK := (hK.sub (tys' := [(ceC, .int)]) [1] rfl).app hK1
          generalize H1 = H at hP hS ⊢
          have hP : va_P (dC, dI) vwCl [(zaI eC ceC 100 feC2), (zo7iirrrririii bl esg (nI ecl) eW eA eE eC (nI ecd2) aTp (nI ez) (nI ep9_19) (nI em2)), (zaI aTp cTp 100 fTp)] H := hP
          have hD : va_D A [(zaI eC ceC 100 feC2), (zo7iirrrririii bl esg (nI ecl) eW eA eE eC (nI ecd2) aTp (nI ez) (nI ep9_19) (nI em2)), (zaI aTp cTp 100 fTp)] := hD
          have hK : va_K (dC, dI) vwCl [(ceC, .int), (cTp, .int)] s := hK
          rcases hw_18 with ⟨rfl, hy9, h_20, e_21⟩ | ⟨rfl, hn9, e_21⟩
          · skip
            obtain rfl := (e_21).symm
            obtain ⟨m2, rfl⟩ : ∃ q : Nat, m1 = q + 1 := ⟨m1 - 1, by omega⟩
            refine lv_if_eq (tgt := 51) hx hb dX5_readBoth_26 (by decide) (fun c_22 => absurd c_22 (by decide)) (fun _ => ?_)
            refine lv_aload_n hx hb dX5_readBoth_29 rfl (lv_at hl 0 rfl) ?_
            refine lv_iload_n hx hb dX5_readBoth_30 rfl (lv_at hl 1 rfl) ?_
            have hPc := hP.sub (ws' := [(zo7iirrrririii bl esg (nI ecl) eW eA eE eC (nI ecd2) aTp (nI ez) (nI (ep2 + 1)) (nI em2)), (zaI aTp cTp 100 fTp), (zaI eC ceC 100 feC2)]) [1, 2, 0] rfl
            have hDc := hD.sub (ws' := [(zo7iirrrririii bl esg (nI ecl) eW eA eE eC (nI ecd2) aTp (nI ez) (nI (ep2 + 1)) (nI em2)), (zaI aTp cTp 100 fTp), (zaI eC ceC 100 feC2)]) [1, 2, 0] (by decide) rfl
            have hKc := hK.sub (tys' := [(cTp, .int), (ceC, .int)]) [1, 0] rfl
            have hFc := va_free (wc := [(zo7iirrrririii bl esg (nI ecl) eW eA eE eC (nI ecd2) aTp (nI ez) (nI (ep2 + 1)) (nI em2)), (zaI aTp cTp 100 fTp), (zaI eC ceC 100 feC2)]) hD hS hA [1, 2, 0] rfl
            refine va_calli (va_runV (As := [.int 3]) (rest := []) ⟨hx, hb, hml, hown, hts⟩ (c_xPlain3 l dC dI sK sV bl aTp eW eA eE eC ecl ecd2 esg cTp ceC fTp feC2 ez (ep2 + 1) em2 ss (kt ++ L1) H.size (hez) (by omega) (by omega) ((hX2).mono (by omega)) (zC2) (gX)) (cwV 1 hts gX5_readBoth_X5_readPlain rfl rfl rfl hd_yX5_readPlain ⟨Nat.le_of_ble_eq_true rfl, Nat.le_of_ble_eq_true rfl⟩) ⟨fun a U g mk q => by obtain ⟨q0, q1, qP, qK, qD, qhE⟩ := q; exact ⟨q0, mvz g mk a q1, mvP g mk a qP, mvK g mk a qK, qD, qhE.mv g mk a⟩, va_recv hK hP (ci := 7) (q := (RX5, TX5, 11)) (q0 := 1) rfl rfl, fun U hU hW => ⟨rfl, by rw [hU], by rw [hU]; exact hPc, va_K.moved hW.alike hKc, hDc.weaken (fun _ _ _ _ => trivial), hE.call hS hU hW (fun q h => hFc q h)⟩⟩ rfl rfl hl.1 rfl (lv_room (Nat.le_of_ble_eq_true rfl)) dX5_readBoth_31 ⟨Nat.le_of_ble_eq_true rfl, Nat.le_of_ble_eq_true rfl⟩) hS (fun q _ h => hFc q h) hFc (fun r_23 u tC H1 locs htC hvm hw_24 hB hz1 hk1 hS => ?_)
            obtain ⟨ecd9_25, ep9_26, em9_27, feC9_28⟩ := u
            try dsimp only at hw_24 hB
            obtain ⟨hP1, hK1, hD1⟩ := hB
            rw [htC] at hP1
            have hK1 := va_K.moved hvm.symm hK1
            obtain ⟨hP, hD⟩ := va_join (wr := []) (w1 := [(zo7iirrrririii bl esg (nI ecl) eW eA eE eC (nI ecd9_25) aTp (nI ez) (nI ep9_26) (nI em9_27)), (zaI aTp cTp 100 fTp), (zaI eC ceC 100 feC9_28)]) hP hD [1, 2, 0] [] rfl rfl (by decide) (by decide) hk1 hFc hP1 hD1
            have hK := (hK.sub (tys' := []) [] rfl).app hK1
            generalize H1 = H at hP hS ⊢
            have hP : va_P (dC, dI) vwCl [(zo7iirrrririii bl esg (nI ecl) eW eA eE eC (nI ecd9_25) aTp (nI ez) (nI ep9_26) (nI em9_27)), (zaI aTp cTp 100 fTp), (zaI eC ceC 100 feC9_28)] H := hP
            have hD : va_D A [(zo7iirrrririii bl esg (nI ecl) eW eA eE eC (nI ecd9_25) aTp (nI ez) (nI ep9_26) (nI em9_27)), (zaI aTp cTp 100 fTp), (zaI eC ceC 100 feC9_28)] := hD
            have hK : va_K (dC, dI) vwCl [(cTp, .int), (ceC, .int)] s := hK
            rcases hw_24 with ⟨rfl, L_29, eP_30, h_31, h_32, h_33, h_34, hX_36, hC_35⟩ | ⟨rfl, eP_30, h_31, h_32, h_33, hC_35⟩
            · skip
              refine lv_if_ne (tgt := 39) hx hb dX5_readBoth_34 (by decide) (fun _ => ?_) (fun c_37 => absurd c_37 (by decide))
              refine lv_aload_n hx hb dX5_readBoth_39 rfl (lv_at hl 0 rfl) ?_
              refine lv_bipush (v := (-2)) hx hb dX5_readBoth_40 (by decide) ?_
              have hPc := hP.sub (ws' := [(zo7iirrrririii bl esg (nI ecl) eW eA eE eC (nI ecd9_25) aTp (nI ez) (nI ep9_26) (nI em9_27)), (zaI eC ceC 100 feC9_28)]) [0, 2] rfl
              have hDc := hD.sub (ws' := [(zo7iirrrririii bl esg (nI ecl) eW eA eE eC (nI ecd9_25) aTp (nI ez) (nI ep9_26) (nI em9_27)), (zaI eC ceC 100 feC9_28)]) [0, 2] (by decide) rfl
              have hKc := hK.sub (tys' := [(ceC, .int)]) [1] rfl
              have hFc := va_free (wc := [(zo7iirrrririii bl esg (nI ecl) eW eA eE eC (nI ecd9_25) aTp (nI ez) (nI ep9_26) (nI em9_27)), (zaI eC ceC 100 feC9_28)]) hD hS hA [0, 2] rfl
              refine va_callv (va_runV (As := [.int (-2)]) (rest := []) ⟨hx, hb, hml, hown, hts⟩ (c_xCode l dC dI bl aTp eW eA eE eC ecl ecd9_25 (-2) esg ceC feC9_28 ez ep9_26 em9_27 ((kt ++ L1) ++ L_29) 1802 H.size ((hX_36).mono (by omega)) (by have h6 := (hX_36).1; have h7 := (hX_36).2.1; have h8 := hXT.1; have h9 := hXT.2.1; (try simp only [List.length_append] at h6); omega) (hC_35) (Or.inr (Or.inl rfl)) (by decide)) (cwV 1 hts gX5_readBoth_X5_code rfl rfl rfl hd_yX5_code ⟨Nat.le_of_ble_eq_true rfl, Nat.le_of_ble_eq_true rfl⟩) ⟨fun a U g mk q => by obtain ⟨q0, q1, qP, qK, qD⟩ := q; exact ⟨q0, mvz g mk a q1, mvP g mk a qP, mvK g mk a qK, qD⟩, va_recv hK hP (ci := 7) (q := (RX5, TX5, 11)) (q0 := 0) rfl rfl, fun U hU hW => ⟨rfl, by rw [hU], by rw [hU]; exact hPc, va_K.moved hW.alike hKc, hDc.weaken (fun _ _ _ _ => trivial)⟩⟩ rfl rfl hl.1 rfl (lv_room (Nat.le_of_ble_eq_true rfl)) dX5_readBoth_42 ⟨Nat.le_of_ble_eq_true rfl, Nat.le_of_ble_eq_true rfl⟩) hS (fun q _ h => hFc q h) hFc (fun u tC H1 locs htC hvm hw_39 hB hz1 hk1 hS => ?_)
              obtain ⟨ecd9_40, feC9_41⟩ := u
              try dsimp only at hw_39 hB
              obtain ⟨hP1, hK1, hD1⟩ := hB
              rw [htC] at hP1
              have hK1 := va_K.moved hvm.symm hK1
              obtain ⟨hP, hD⟩ := va_join (wr := [(zaI aTp cTp 100 fTp)]) (w1 := [(zo7iirrrririii bl esg (nI ecl) eW eA eE eC (nI ecd9_40) aTp (nI ez) (nI ep9_26) (nI em9_27)), (zaI eC ceC 100 feC9_41)]) hP hD [0, 2] [1] rfl rfl (by decide) (by decide) hk1 hFc hP1 hD1
              have hK := (hK.sub (tys' := [(cTp, .int)]) [0] rfl).app hK1
              generalize H1 = H at hP hS ⊢
              have hP : va_P (dC, dI) vwCl [(zaI aTp cTp 100 fTp), (zo7iirrrririii bl esg (nI ecl) eW eA eE eC (nI ecd9_40) aTp (nI ez) (nI ep9_26) (nI em9_27)), (zaI eC ceC 100 feC9_41)] H := hP
              have hD : va_D A [(zaI aTp cTp 100 fTp), (zo7iirrrririii bl esg (nI ecl) eW eA eE eC (nI ecd9_40) aTp (nI ez) (nI ep9_26) (nI em9_27)), (zaI eC ceC 100 feC9_41)] := hD
              have hK : va_K (dC, dI) vwCl [(cTp, .int), (ceC, .int)] s := hK
              obtain ⟨e_42, hC_43, h_44⟩ := hw_39
              obtain rfl := (e_42).symm
              have hX_45 : XT feC9_41 (ecd9_25 + 1) (((kt ++ L1) ++ L_29) ++ [1802]) (ep9_26) := ⟨by rw [List.length_append, (hX_36).1]; rfl, by have h6 := (hX_36).1; have h7 := (hX_36).2.1; have h8 := hXT.1; have h9 := hXT.2.1; (try simp only [List.length_append] at h6); omega, h_44⟩
              refine lv_iinc (v := nI (i + 1)) (lv' := [(2, .int (nI (i + 1))), (0, .ref bl), (1, .int 3)]) hx hb dX5_readBoth_45 hl (k := 2) rfl (nI_add i 1) (by decide) rfl (fun ls hl => ?_)
              refine lv_goto (tgt := 12) hx hb dX5_readBoth_48 (by decide) ?_
              exact ih12 (i + 1) _ _ _ _ (L1 ++ (L_29 ++ [1802])) (m2) (by omega) (by omega) (⟨hE9.trans (ps_go hy9 eP_30), by omega⟩) (by omega) (by simp only [List.length_append, List.length_cons, List.length_nil]; omega) (XT.as (XT.as (hX_45))) (hC_43) _ _ (hK.sub [0, 1] rfl) (hP.sub [1, 0, 2] rfl) (hD.sub [1, 0, 2] (by decide) rfl) hS ls (lv_sub hl [1, 2, 0] rfl)
            · skip
              refine lv_if_ne (tgt := 39) hx hb dX5_readBoth_34 (by decide) (fun c_46 => absurd c_46 (by decide)) (fun _ => ?_)
              refine lv_iconst (v := 0) hx hb dX5_readBoth_37 (by decide) ?_
              rw [hQ]
              have hP9 := hP.sub (ws' := [(zo7iirrrririii bl esg (nI ecl) eW eA eE eC (nI ecd9_25) aTp (nI ez) (nI ep9_26) (nI em9_27)), (zaI aTp cTp 100 fTp), (zaI eC ceC 100 feC9_28)]) [0, 1, 2] rfl
              have hD9 := hD.sub (ws' := [(zo7iirrrririii bl esg (nI ecl) eW eA eE eC (nI ecd9_25) aTp (nI ez) (nI ep9_26) (nI em9_27)), (zaI aTp cTp 100 fTp), (zaI eC ceC 100 feC9_28)]) [0, 1, 2] (by decide) rfl
              have hK9 := hK.sub (tys' := [(cTp, .int), (ceC, .int)]) [0, 1] rfl
              exact W.zret (v := 0) hx hb hr rfl (fun tQ htQ hWQ => ⟨⟨0, (ecd9_25, ep9_26, em9_27, feC9_28), rfl, Or.inr ⟨rfl, hE9.trans (ps_bad hy9 eP_30), by omega, by omega, by first | omega | (have := (hXT).2.1; omega), hC_35⟩, by rw [htQ]; exact hP9, va_K.moved hWQ.alike hK9, hD9⟩, hS.F htQ⟩) hS.2.2 dX5_readBoth_38
          · skip
            obtain rfl := (e_21).symm
            refine lv_if_eq (tgt := 51) hx hb dX5_readBoth_26 (by decide) (fun _ => ?_) (fun c_47 => absurd c_47 (by decide))
            refine lv_iconst (v := 1) hx hb dX5_readBoth_51 (by decide) ?_
            rw [hQ]
            have hP9 := hP.sub (ws' := [(zo7iirrrririii bl esg (nI ecl) eW eA eE eC (nI ecd2) aTp (nI ez) (nI ep2) (nI em2)), (zaI aTp cTp 100 fTp), (zaI eC ceC 100 feC2)]) [1, 2, 0] rfl
            have hD9 := hD.sub (ws' := [(zo7iirrrririii bl esg (nI ecl) eW eA eE eC (nI ecd2) aTp (nI ez) (nI ep2) (nI em2)), (zaI aTp cTp 100 fTp), (zaI eC ceC 100 feC2)]) [1, 2, 0] (by decide) rfl
            have hK9 := hK.sub (tys' := [(cTp, .int), (ceC, .int)]) [1, 0] rfl
            exact W.zret (v := 1) hx hb hr rfl (fun tQ htQ hWQ => ⟨⟨1, (ecd2, ep2, em2, feC2), rfl, Or.inl ⟨rfl, L1, hE9.trans (ps_end hn9), by omega, by omega, by omega, by (try simp only [List.length_append, List.length_cons, List.length_nil]); omega, hX2, zC2⟩, by rw [htQ]; exact hP9, va_K.moved hWQ.alike hK9, hD9⟩, hS.F htQ⟩) hS.2.2 dX5_readBoth_52
    exact L12 _ (0) _ _ _ _ (L_7) (101) (Nat.lt_succ_self _) (by omega) (⟨pEv_s eP_8, by omega⟩) (by omega) (by omega) (hX_14) (hC_13) _ _ (hK.sub [0, 1] rfl) (hP.sub [0, 1, 2] rfl) (hD.sub [0, 1, 2] (by decide) rfl) hS ls (lv_sub hl [1, 2, 0] rfl)
  · skip
    refine lv_if_ne (tgt := 10) hx hb dX5_readBoth_5 (by decide) (fun c_48 => absurd c_48 (by decide)) (fun _ => ?_)
    refine lv_iconst (v := 0) hx hb dX5_readBoth_8 (by decide) ?_
    rw [hQ]
    have hP9 := hP.sub (ws' := [(zo7iirrrririii bl esg (nI ecl) eW eA eE eC (nI ecd9_3) aTp (nI ez) (nI ep9_4) (nI em9_5)), (zaI aTp cTp 100 fTp), (zaI eC ceC 100 feC9_6)]) [0, 1, 2] rfl
    have hD9 := hD.sub (ws' := [(zo7iirrrririii bl esg (nI ecl) eW eA eE eC (nI ecd9_3) aTp (nI ez) (nI ep9_4) (nI em9_5)), (zaI aTp cTp 100 fTp), (zaI eC ceC 100 feC9_6)]) [0, 1, 2] (by decide) rfl
    have hK9 := hK.sub (tys' := [(cTp, .int), (ceC, .int)]) [0, 1] rfl
    exact W.zret (v := 0) hx hb hr rfl (fun tQ htQ hWQ => ⟨⟨0, (ecd9_3, ep9_4, em9_5, feC9_6), rfl, Or.inr ⟨rfl, pEv_n eP_8, by omega, by omega, by first | omega | (have := (hXT).2.1; omega), hC_13⟩, by rw [htQ]; exact hP9, va_K.moved hWQ.alike hK9, hD9⟩, hS.F htQ⟩) hS.2.2 dX5_readBoth_9

theorem kc_xEither3_0 : ∀ w ∈ wsX50, w ∈ wsX5_readEither := fun w h => List.mem_cons_of_mem _ (gin_wsX50 w h)
theorem kc_xEither3_1 : (.fieldLink RX5 31 "MistHeaps$Hill" "size" "I" : Cond) ∈ wsX5_readEither := kc_of 123 rfl rfl rfl
set_option maxHeartbeats 4000000 in
set_option maxRecDepth 100000 in
theorem c_xEither3 (l : Launch) (dC : Nat → ClassId) (dI : Nat → Nat → Nat) (sK sV : Nat → Nat) (bl : Nat) (aTp : Nat) (eW : Nat) (eA : Nat) (eE : Nat) (eC : Nat) (ecl : Nat) (ecd : Nat) (esg : Int32) (cTp : ClassId) (ceC : ClassId) (fTp : Nat → Int32) (feC : Nat → Int32) (ez : Nat) (ep : Nat) (em : Nat) (ss : Nat → Nat) (kt : List Nat) (sz : Nat) (hez : ez ≤ 100) (hep : ep ≤ ez) (hem : em ≤ 99) (hXT : XT feC ecd kt ep) (zeC : ∀ k0, k0 < 100 → okC (feC k0)) (gX : TX fTp ez ss) : Met l yX5_readEither wsX5_readEither ({ frames := 13, cells := 0, slots := 0, locals := 289 } : Room) (va_Pc [.ref bl, .int 3] (fun U => U.heap.size = sz ∧ va_P (dC, dI) vwCl [(zo7iirrrririii bl esg (nI ecl) eW eA eE eC (nI ecd) aTp (nI ez) (nI ep) (nI em)), (zaI aTp cTp 100 fTp), (zaI eC ceC 100 feC)] U.heap ∧ va_K (dC, dI) vwCl [(cTp, .int), (ceC, .int)] U ∧ va_D (fun _ => True) [(zo7iirrrririii bl esg (nI ecl) eW eA eE eC (nI ecd) aTp (nI ez) (nI ep) (nI em)), (zaI aTp cTp 100 fTp), (zaI eC ceC 100 feC)] ∧ Gs sK sV (va_A [(zo7iirrrririii bl esg (nI ecl) eW eA eE eC (nI ecd) aTp (nI ez) (nI ep) (nI em)), (zaI aTp cTp 100 fTp), (zaI eC ceC 100 feC)] sz) U)) (va_Qi (fun (r : Int32) (u : (Nat) × (Nat) × (Nat) × (Nat → Int32)) => match u with | (ecd9, ep9, em9, feC9) => (r = 1 ∧ ∃ L0 : List Nat, pSm ss (pFac ss 2) ep = (some L0, ep9) ∧ ep + 3 ≤ ep9 ∧ ep9 ≤ ez ∧ em9 ≤ 99 ∧ L0.length + ep ≤ ep9 ∧ XT feC9 ecd9 (kt ++ L0) ep9 ∧ ∀ k0, k0 < 100 → okC (feC9 k0)) ∨ (r = 0 ∧ pSm ss (pFac ss 2) ep = (none, ep9) ∧ ep9 ≤ ez + 2 ∧ em9 ≤ 99 ∧ ecd9 ≤ 100 ∧ ∀ k0, k0 < 100 → okC (feC9 k0))) (fun (u : (Nat) × (Nat) × (Nat) × (Nat → Int32)) (t : State) => match u with | (ecd9, ep9, em9, feC9) => va_P (dC, dI) vwCl [(zo7iirrrririii bl esg (nI ecl) eW eA eE eC (nI ecd9) aTp (nI ez) (nI ep9) (nI em9)), (zaI aTp cTp 100 fTp), (zaI eC ceC 100 feC9)] t.heap ∧ va_K (dC, dI) vwCl [(cTp, .int), (ceC, .int)] t ∧ va_D (va_A [(zo7iirrrririii bl esg (nI ecl) eW eA eE eC (nI ecd) aTp (nI ez) (nI ep) (nI em)), (zaI aTp cTp 100 fTp), (zaI eC ceC 100 feC)] sz) [(zo7iirrrririii bl esg (nI ecl) eW eA eE eC (nI ecd9) aTp (nI ez) (nI ep9) (nI em9)), (zaI aTp cTp 100 fTp), (zaI eC ceC 100 feC9)]) (va_A [(zo7iirrrririii bl esg (nI ecl) eW eA eE eC (nI ecd) aTp (nI ez) (nI ep) (nI em)), (zaI aTp cTp 100 fTp), (zaI eC ceC 100 feC)] sz)) 0 0 (va_A [(zo7iirrrririii bl esg (nI ecl) eW eA eE eC (nI ecd) aTp (nI ez) (nI ep) (nI em)), (zaI aTp cTp 100 fTp), (zaI eC ceC 100 feC)] sz) := by
  refine met_ofQ (cc := cX5_readEither) (maxL := 3) (ret := (some .boolean)) (by decide) rfl ?_
  intro p e s m args below meth c s₁ Q B hml hv hQ
  obtain ⟨rfl, hsz, hP, hK, hD0, hE⟩ := hv
  have hx := B.exec
  have hb := B.bytes
  have hr := B.returns
  have hts := atoms_spec (ws := wsX5_readEither) B.pre
  have hown : s.vm.findClass RX5 = some m.cls := findClass_of_methodNamed B.named
  have hlocks := B.notSynchronized
  subst hsz
  have hD := hD0.self (sz := s.heap.size)
  generalize hAe : va_A [(zo7iirrrririii bl esg (nI ecl) eW eA eE eC (nI ecd) aTp (nI ez) (nI ep) (nI em)), (zaI aTp cTp 100 fTp), (zaI eC ceC 100 feC)] s.heap.size = A at hD hQ hE ⊢
  have hA : ∀ q : Nat, s.heap.size ≤ q → A q := fun q h => by rw [← hAe]; exact Or.inr h
  have hS : va_S A s.heap s.heap [] := va_S.rf
  have hl := lv_entry [.ref bl, .int 3] (n := 3) (Nat.le_of_ble_eq_true rfl)
  rw [lg_entry_eq]
  generalize (lg_sl [.ref bl, .int 3] ++ List.replicate (3 - (lg_sl [.ref bl, .int 3]).length) Slot.unset).toArray = ls at hl ⊢
  generalize hag : ([.ref bl, .int 3] : List Value).toArray = args at hts hQ ⊢
  have hl : lv_has ls 3 [(0, .ref bl), (1, .int 3)] := hl
  obtain ⟨H, hH⟩ : ∃ H : Heap, H = s.heap := ⟨_, rfl⟩
  rw [← hH] at hP
  rw [← hH]
  have hS : va_S A s.heap H [] := by rw [hH]; exact hS
  obtain ⟨locs, hlo⟩ : ∃ L : List Loc, L = [] := ⟨_, rfl⟩
  rw [← hlo] at hS
  rw [← hlo]
  clear hH hlo
  refine lv_aload_n hx hb dX5_readEither_0 rfl (lv_at hl 0 rfl) ?_
  refine lv_iload_n hx hb dX5_readEither_1 rfl (lv_at hl 1 rfl) ?_
  have hPc := hP.sub (ws' := [(zo7iirrrririii bl esg (nI ecl) eW eA eE eC (nI ecd) aTp (nI ez) (nI ep) (nI em)), (zaI aTp cTp 100 fTp), (zaI eC ceC 100 feC)]) [0, 1, 2] rfl
  have hDc := hD.sub (ws' := [(zo7iirrrririii bl esg (nI ecl) eW eA eE eC (nI ecd) aTp (nI ez) (nI ep) (nI em)), (zaI aTp cTp 100 fTp), (zaI eC ceC 100 feC)]) [0, 1, 2] (by decide) rfl
  have hKc := hK.sub (tys' := [(cTp, .int), (ceC, .int)]) [0, 1] rfl
  have hFc := va_free (wc := [(zo7iirrrririii bl esg (nI ecl) eW eA eE eC (nI ecd) aTp (nI ez) (nI ep) (nI em)), (zaI aTp cTp 100 fTp), (zaI eC ceC 100 feC)]) hD hS hA [0, 1, 2] rfl
  refine va_calli (va_runV (As := [.int 3]) (rest := []) ⟨hx, hb, hml, hown, hts⟩ (c_xBoth3 l dC dI sK sV bl aTp eW eA eE eC ecl ecd esg cTp ceC fTp feC ez ep em ss kt H.size (hez) (by omega) (by omega) ((hXT).mono (by omega)) (zeC) (gX)) (cwV 1 hts gX5_readEither_X5_readBoth rfl rfl rfl hd_yX5_readBoth ⟨Nat.le_of_ble_eq_true rfl, Nat.le_of_ble_eq_true rfl⟩) ⟨fun a U g mk q => by obtain ⟨q0, q1, qP, qK, qD, qhE⟩ := q; exact ⟨q0, mvz g mk a q1, mvP g mk a qP, mvK g mk a qK, qD, qhE.mv g mk a⟩, va_recv hK hP (ci := 7) (q := (RX5, TX5, 11)) (q0 := 0) rfl rfl, fun U hU hW => ⟨rfl, by rw [hU], by rw [hU]; exact hPc, va_K.moved hW.alike hKc, hDc.weaken (fun _ _ _ _ => trivial), hE.call hS hU hW (fun q h => hFc q h)⟩⟩ rfl rfl hl.1 rfl (lv_room (Nat.le_of_ble_eq_true rfl)) dX5_readEither_2 ⟨Nat.le_of_ble_eq_true rfl, Nat.le_of_ble_eq_true rfl⟩) hS (fun q _ h => hFc q h) hFc (fun r_1 u tC H1 locs htC hvm hw_2 hB hz1 hk1 hS => ?_)
  obtain ⟨ecd9_3, ep9_4, em9_5, feC9_6⟩ := u
  try dsimp only at hw_2 hB
  obtain ⟨hP1, hK1, hD1⟩ := hB
  rw [htC] at hP1
  have hK1 := va_K.moved hvm.symm hK1
  obtain ⟨hP, hD⟩ := va_join (wr := []) (w1 := [(zo7iirrrririii bl esg (nI ecl) eW eA eE eC (nI ecd9_3) aTp (nI ez) (nI ep9_4) (nI em9_5)), (zaI aTp cTp 100 fTp), (zaI eC ceC 100 feC9_6)]) hP hD [0, 1, 2] [] rfl rfl (by decide) (by decide) hk1 hFc hP1 hD1
  have hK := (hK.sub (tys' := []) [] rfl).app hK1
  generalize H1 = H at hP hS ⊢
  have hP : va_P (dC, dI) vwCl [(zo7iirrrririii bl esg (nI ecl) eW eA eE eC (nI ecd9_3) aTp (nI ez) (nI ep9_4) (nI em9_5)), (zaI aTp cTp 100 fTp), (zaI eC ceC 100 feC9_6)] H := hP
  have hD : va_D A [(zo7iirrrririii bl esg (nI ecl) eW eA eE eC (nI ecd9_3) aTp (nI ez) (nI ep9_4) (nI em9_5)), (zaI aTp cTp 100 fTp), (zaI eC ceC 100 feC9_6)] := hD
  have hK : va_K (dC, dI) vwCl [(cTp, .int), (ceC, .int)] s := hK
  rcases hw_2 with ⟨rfl, L_7, eP_8, h_9, h_10, h_11, h_12, hX_14, hC_13⟩ | ⟨rfl, eP_8, h_9, h_10, h_11, hC_13⟩
  · skip
    refine lv_if_ne (tgt := 10) hx hb dX5_readEither_5 (by decide) (fun _ => ?_) (fun c_15 => absurd c_15 (by decide))
    refine lv_iconst (v := 0) hx hb dX5_readEither_10 (by decide) ?_
    refine lv_istore_n (lv' := [(2, .int 0), (0, .ref bl), (1, .int 3)]) hx hb dX5_readEither_11 rfl hl (by decide) rfl (fun ls hl => ?_)
    have L12 : ∀ (nF : Nat) (i : Nat) (ecd2 : Nat) (ep2 : Nat) (em2 : Nat) (feC2 : Nat → Int32) (L1 : List Nat) (m1 : Nat), ez - i < nF → (i ≤ ez) → (pSm ss (pFac ss 2) ep = pSep ss 124 1803 (pEv ss (pFac ss 2)) m1 (some L1, ep2) ∧ 101 ≤ m1 + ep2) → (ep + 3 + 2 * i ≤ ep2 ∧ ep2 ≤ ez ∧ em2 ≤ 99) → (L1.length + ep ≤ ep2) → (XT feC2 ecd2 (kt ++ L1) ep2) → (∀ k0, k0 < 100 → okC (feC2 k0)) → ∀ (H : Heap) (locs : List Loc), va_K (dC, dI) vwCl [(cTp, .int), (ceC, .int)] s → va_P (dC, dI) vwCl [(zo7iirrrririii bl esg (nI ecl) eW eA eE eC (nI ecd2) aTp (nI ez) (nI ep2) (nI em2)), (zaI aTp cTp 100 fTp), (zaI eC ceC 100 feC2)] H → va_D A [(zo7iirrrririii bl esg (nI ecl) eW eA eE eC (nI ecd2) aTp (nI ez) (nI ep2) (nI em2)), (zaI aTp cTp 100 fTp), (zaI eC ceC 100 feC2)] → va_S A s.heap H locs → ∀ (ls : Array Slot), lv_has ls 3 [(0, .ref bl), (1, .int 3), (2, .int (nI i))] → W p l e ({ frames := 13, cells := 0, slots := 0, locals := 289 } : Room) s m args below meth c H locs 0 0 Q (F0 m 12 ls []) := by
      intro nF
      induction nF with
      | zero => intro i ecd2 ep2 em2 feC2 L1 m1 hm; exact absurd hm (Nat.not_lt_zero _)
      | succ nF ih12 =>
        intro i ecd2 ep2 em2 feC2 L1 m1 hm hii hE9 hp2 hL2 hX2 zC2 H locs hK hP hD hS ls hl
        obtain ⟨hE9, hm9⟩ := hE9
        obtain ⟨hp2a, hp2b, hp2c⟩ := hp2
        refine lv_iload_n hx hb dX5_readEither_12 rfl (lv_at hl 2 rfl) ?_
        refine lv_aload_n hx hb dX5_readEither_13 rfl (lv_at hl 0 rfl) ?_
        refine va_get (D := (dC, dI)) (ci := 7) (v := .int (nI ez)) (C := RX5) (T := TX5) (N := 11) hx hb hts kc_xEither3_0 hown hK hP 0 rfl rfl 8 (by decide) (hts (.fieldLink RX5 31 "MistHeaps$Hill" "size" "I") kc_xEither3_1) (fun _ h9 => h9) rfl dX5_readEither_14 ?_
        refine lv_icmp_ge (tgt := 51) hx hb dX5_readEither_17 (by decide) (fun c_16 => ?_) (fun c_16 => ?_)
        · skip
          have c_16 : ez ≤ i := (nI_leI (a := ez) (b := i) (by omega) (by omega)).mp c_16
          refine lv_iconst (v := 1) hx hb dX5_readEither_51 (by decide) ?_
          rw [hQ]
          have hP9 := hP.sub (ws' := [(zo7iirrrririii bl esg (nI ecl) eW eA eE eC (nI ecd2) aTp (nI ez) (nI ep2) (nI em2)), (zaI aTp cTp 100 fTp), (zaI eC ceC 100 feC2)]) [0, 1, 2] rfl
          have hD9 := hD.sub (ws' := [(zo7iirrrririii bl esg (nI ecl) eW eA eE eC (nI ecd2) aTp (nI ez) (nI ep2) (nI em2)), (zaI aTp cTp 100 fTp), (zaI eC ceC 100 feC2)]) [0, 1, 2] (by decide) rfl
          have hK9 := hK.sub (tys' := [(cTp, .int), (ceC, .int)]) [0, 1] rfl
          exact W.zret (v := 1) hx hb hr rfl (fun tQ htQ hWQ => ⟨⟨1, (ecd2, ep2, em2, feC2), rfl, Or.inl ⟨rfl, L1, hE9.trans (ps_end (fun z => by have := gX.2.1 ep2 (by omega); omega)), by omega, by omega, by omega, by (try simp only [List.length_append, List.length_cons, List.length_nil]); omega, hX2, zC2⟩, by rw [htQ]; exact hP9, va_K.moved hWQ.alike hK9, hD9⟩, hS.F htQ⟩) hS.2.2 dX5_readEither_52
        · skip
          have c_16 : ¬ ez ≤ i := fun q => c_16 ((nI_leI (a := ez) (b := i) (by omega) (by omega)).mpr q)
          refine lv_aload_n hx hb dX5_readEither_20 rfl (lv_at hl 0 rfl) ?_
          refine lv_bipush (v := 124) hx hb dX5_readEither_21 (by decide) ?_
          have hPc := hP.sub (ws' := [(zo7iirrrririii bl esg (nI ecl) eW eA eE eC (nI ecd2) aTp (nI ez) (nI ep2) (nI em2)), (zaI aTp cTp 100 fTp)]) [0, 1] rfl
          have hDc := hD.sub (ws' := [(zo7iirrrririii bl esg (nI ecl) eW eA eE eC (nI ecd2) aTp (nI ez) (nI ep2) (nI em2)), (zaI aTp cTp 100 fTp)]) [0, 1] (by decide) rfl
          have hKc := hK.sub (tys' := [(cTp, .int)]) [0] rfl
          have hFc := va_free (wc := [(zo7iirrrririii bl esg (nI ecl) eW eA eE eC (nI ecd2) aTp (nI ez) (nI ep2) (nI em2)), (zaI aTp cTp 100 fTp)]) hD hS hA [0, 1] rfl
          refine va_calli (va_runV (As := [.int 124]) (rest := []) ⟨hx, hb, hml, hown, hts⟩ (c_xReadSign l dC dI bl aTp eW eA eE eC 124 ecl ecd2 esg cTp fTp ez ep2 em2 ss H.size (hez) (by omega) (by decide) (by decide) (gX)) (cwV 1 hts gX5_readEither_X5_readSign rfl rfl rfl hd_yX5_readSign ⟨Nat.le_of_ble_eq_true rfl, Nat.le_of_ble_eq_true rfl⟩) ⟨fun a U g mk q => by obtain ⟨q0, q1, qP, qK, qD⟩ := q; exact ⟨q0, mvz g mk a q1, mvP g mk a qP, mvK g mk a qK, qD⟩, va_recv hK hP (ci := 7) (q := (RX5, TX5, 11)) (q0 := 0) rfl rfl, fun U hU hW => ⟨rfl, by rw [hU], by rw [hU]; exact hPc, va_K.moved hW.alike hKc, hDc.weaken (fun _ _ _ _ => trivial)⟩⟩ rfl rfl hl.1 rfl (lv_room (Nat.le_of_ble_eq_true rfl)) dX5_readEither_23 ⟨Nat.le_of_ble_eq_true rfl, Nat.le_of_ble_eq_true rfl⟩) hS (fun q _ h => hFc q h) hFc (fun r_17 u tC H1 locs htC hvm hw_18 hB hz1 hk1 hS => ?_)
          obtain ⟨ep9_19, rfl⟩ : ∃ z, z = u := ⟨_, rfl⟩
          try dsimp only at hw_18 hB
          obtain ⟨hP1, hK1, hD1⟩ := hB
          rw [htC] at hP1
          have hK1 := va_K.moved hvm.symm hK1
          obtain ⟨hP, hD⟩ := va_join (wr := [(zaI eC ceC 100 feC2)]) (w1 := [(zo7iirrrririii bl esg (nI ecl) eW eA eE eC (nI ecd2) aTp (nI ez) (nI ep9_19) (nI em2)), (zaI aTp cTp 100 fTp)]) hP hD [0, 1] [2] rfl rfl (by decide) (by decide) hk1 hFc hP1 hD1
          have hK := (hK.sub (tys' := [(ceC, .int)]) [1] rfl).app hK1
          generalize H1 = H at hP hS ⊢
          have hP : va_P (dC, dI) vwCl [(zaI eC ceC 100 feC2), (zo7iirrrririii bl esg (nI ecl) eW eA eE eC (nI ecd2) aTp (nI ez) (nI ep9_19) (nI em2)), (zaI aTp cTp 100 fTp)] H := hP
          have hD : va_D A [(zaI eC ceC 100 feC2), (zo7iirrrririii bl esg (nI ecl) eW eA eE eC (nI ecd2) aTp (nI ez) (nI ep9_19) (nI em2)), (zaI aTp cTp 100 fTp)] := hD
          have hK : va_K (dC, dI) vwCl [(ceC, .int), (cTp, .int)] s := hK
          rcases hw_18 with ⟨rfl, hy9, h_20, e_21⟩ | ⟨rfl, hn9, e_21⟩
          · skip
            obtain rfl := (e_21).symm
            obtain ⟨m2, rfl⟩ : ∃ q : Nat, m1 = q + 1 := ⟨m1 - 1, by omega⟩
            refine lv_if_eq (tgt := 51) hx hb dX5_readEither_26 (by decide) (fun c_22 => absurd c_22 (by decide)) (fun _ => ?_)
            refine lv_aload_n hx hb dX5_readEither_29 rfl (lv_at hl 0 rfl) ?_
            refine lv_iload_n hx hb dX5_readEither_30 rfl (lv_at hl 1 rfl) ?_
            have hPc := hP.sub (ws' := [(zo7iirrrririii bl esg (nI ecl) eW eA eE eC (nI ecd2) aTp (nI ez) (nI (ep2 + 1)) (nI em2)), (zaI aTp cTp 100 fTp), (zaI eC ceC 100 feC2)]) [1, 2, 0] rfl
            have hDc := hD.sub (ws' := [(zo7iirrrririii bl esg (nI ecl) eW eA eE eC (nI ecd2) aTp (nI ez) (nI (ep2 + 1)) (nI em2)), (zaI aTp cTp 100 fTp), (zaI eC ceC 100 feC2)]) [1, 2, 0] (by decide) rfl
            have hKc := hK.sub (tys' := [(cTp, .int), (ceC, .int)]) [1, 0] rfl
            have hFc := va_free (wc := [(zo7iirrrririii bl esg (nI ecl) eW eA eE eC (nI ecd2) aTp (nI ez) (nI (ep2 + 1)) (nI em2)), (zaI aTp cTp 100 fTp), (zaI eC ceC 100 feC2)]) hD hS hA [1, 2, 0] rfl
            refine va_calli (va_runV (As := [.int 3]) (rest := []) ⟨hx, hb, hml, hown, hts⟩ (c_xBoth3 l dC dI sK sV bl aTp eW eA eE eC ecl ecd2 esg cTp ceC fTp feC2 ez (ep2 + 1) em2 ss (kt ++ L1) H.size (hez) (by omega) (by omega) ((hX2).mono (by omega)) (zC2) (gX)) (cwV 1 hts gX5_readEither_X5_readBoth rfl rfl rfl hd_yX5_readBoth ⟨Nat.le_of_ble_eq_true rfl, Nat.le_of_ble_eq_true rfl⟩) ⟨fun a U g mk q => by obtain ⟨q0, q1, qP, qK, qD, qhE⟩ := q; exact ⟨q0, mvz g mk a q1, mvP g mk a qP, mvK g mk a qK, qD, qhE.mv g mk a⟩, va_recv hK hP (ci := 7) (q := (RX5, TX5, 11)) (q0 := 1) rfl rfl, fun U hU hW => ⟨rfl, by rw [hU], by rw [hU]; exact hPc, va_K.moved hW.alike hKc, hDc.weaken (fun _ _ _ _ => trivial), hE.call hS hU hW (fun q h => hFc q h)⟩⟩ rfl rfl hl.1 rfl (lv_room (Nat.le_of_ble_eq_true rfl)) dX5_readEither_31 ⟨Nat.le_of_ble_eq_true rfl, Nat.le_of_ble_eq_true rfl⟩) hS (fun q _ h => hFc q h) hFc (fun r_23 u tC H1 locs htC hvm hw_24 hB hz1 hk1 hS => ?_)
            obtain ⟨ecd9_25, ep9_26, em9_27, feC9_28⟩ := u
            try dsimp only at hw_24 hB
            obtain ⟨hP1, hK1, hD1⟩ := hB
            rw [htC] at hP1
            have hK1 := va_K.moved hvm.symm hK1
            obtain ⟨hP, hD⟩ := va_join (wr := []) (w1 := [(zo7iirrrririii bl esg (nI ecl) eW eA eE eC (nI ecd9_25) aTp (nI ez) (nI ep9_26) (nI em9_27)), (zaI aTp cTp 100 fTp), (zaI eC ceC 100 feC9_28)]) hP hD [1, 2, 0] [] rfl rfl (by decide) (by decide) hk1 hFc hP1 hD1
            have hK := (hK.sub (tys' := []) [] rfl).app hK1
            generalize H1 = H at hP hS ⊢
            have hP : va_P (dC, dI) vwCl [(zo7iirrrririii bl esg (nI ecl) eW eA eE eC (nI ecd9_25) aTp (nI ez) (nI ep9_26) (nI em9_27)), (zaI aTp cTp 100 fTp), (zaI eC ceC 100 feC9_28)] H := hP
            have hD : va_D A [(zo7iirrrririii bl esg (nI ecl) eW eA eE eC (nI ecd9_25) aTp (nI ez) (nI ep9_26) (nI em9_27)), (zaI aTp cTp 100 fTp), (zaI eC ceC 100 feC9_28)] := hD
            have hK : va_K (dC, dI) vwCl [(cTp, .int), (ceC, .int)] s := hK
            rcases hw_24 with ⟨rfl, L_29, eP_30, h_31, h_32, h_33, h_34, hX_36, hC_35⟩ | ⟨rfl, eP_30, h_31, h_32, h_33, hC_35⟩
            · skip
              refine lv_if_ne (tgt := 39) hx hb dX5_readEither_34 (by decide) (fun _ => ?_) (fun c_37 => absurd c_37 (by decide))
              refine lv_aload_n hx hb dX5_readEither_39 rfl (lv_at hl 0 rfl) ?_
              refine lv_bipush (v := (-3)) hx hb dX5_readEither_40 (by decide) ?_
              have hPc := hP.sub (ws' := [(zo7iirrrririii bl esg (nI ecl) eW eA eE eC (nI ecd9_25) aTp (nI ez) (nI ep9_26) (nI em9_27)), (zaI eC ceC 100 feC9_28)]) [0, 2] rfl
              have hDc := hD.sub (ws' := [(zo7iirrrririii bl esg (nI ecl) eW eA eE eC (nI ecd9_25) aTp (nI ez) (nI ep9_26) (nI em9_27)), (zaI eC ceC 100 feC9_28)]) [0, 2] (by decide) rfl
              have hKc := hK.sub (tys' := [(ceC, .int)]) [1] rfl
              have hFc := va_free (wc := [(zo7iirrrririii bl esg (nI ecl) eW eA eE eC (nI ecd9_25) aTp (nI ez) (nI ep9_26) (nI em9_27)), (zaI eC ceC 100 feC9_28)]) hD hS hA [0, 2] rfl
              refine va_callv (va_runV (As := [.int (-3)]) (rest := []) ⟨hx, hb, hml, hown, hts⟩ (c_xCode l dC dI bl aTp eW eA eE eC ecl ecd9_25 (-3) esg ceC feC9_28 ez ep9_26 em9_27 ((kt ++ L1) ++ L_29) 1803 H.size ((hX_36).mono (by omega)) (by have h6 := (hX_36).1; have h7 := (hX_36).2.1; have h8 := hXT.1; have h9 := hXT.2.1; (try simp only [List.length_append] at h6); omega) (hC_35) (Or.inr (Or.inr (Or.inl rfl))) (by decide)) (cwV 1 hts gX5_readEither_X5_code rfl rfl rfl hd_yX5_code ⟨Nat.le_of_ble_eq_true rfl, Nat.le_of_ble_eq_true rfl⟩) ⟨fun a U g mk q => by obtain ⟨q0, q1, qP, qK, qD⟩ := q; exact ⟨q0, mvz g mk a q1, mvP g mk a qP, mvK g mk a qK, qD⟩, va_recv hK hP (ci := 7) (q := (RX5, TX5, 11)) (q0 := 0) rfl rfl, fun U hU hW => ⟨rfl, by rw [hU], by rw [hU]; exact hPc, va_K.moved hW.alike hKc, hDc.weaken (fun _ _ _ _ => trivial)⟩⟩ rfl rfl hl.1 rfl (lv_room (Nat.le_of_ble_eq_true rfl)) dX5_readEither_42 ⟨Nat.le_of_ble_eq_true rfl, Nat.le_of_ble_eq_true rfl⟩) hS (fun q _ h => hFc q h) hFc (fun u tC H1 locs htC hvm hw_39 hB hz1 hk1 hS => ?_)
              obtain ⟨ecd9_40, feC9_41⟩ := u
              try dsimp only at hw_39 hB
              obtain ⟨hP1, hK1, hD1⟩ := hB
              rw [htC] at hP1
              have hK1 := va_K.moved hvm.symm hK1
              obtain ⟨hP, hD⟩ := va_join (wr := [(zaI aTp cTp 100 fTp)]) (w1 := [(zo7iirrrririii bl esg (nI ecl) eW eA eE eC (nI ecd9_40) aTp (nI ez) (nI ep9_26) (nI em9_27)), (zaI eC ceC 100 feC9_41)]) hP hD [0, 2] [1] rfl rfl (by decide) (by decide) hk1 hFc hP1 hD1
              have hK := (hK.sub (tys' := [(cTp, .int)]) [0] rfl).app hK1
              generalize H1 = H at hP hS ⊢
              have hP : va_P (dC, dI) vwCl [(zaI aTp cTp 100 fTp), (zo7iirrrririii bl esg (nI ecl) eW eA eE eC (nI ecd9_40) aTp (nI ez) (nI ep9_26) (nI em9_27)), (zaI eC ceC 100 feC9_41)] H := hP
              have hD : va_D A [(zaI aTp cTp 100 fTp), (zo7iirrrririii bl esg (nI ecl) eW eA eE eC (nI ecd9_40) aTp (nI ez) (nI ep9_26) (nI em9_27)), (zaI eC ceC 100 feC9_41)] := hD
              have hK : va_K (dC, dI) vwCl [(cTp, .int), (ceC, .int)] s := hK
              obtain ⟨e_42, hC_43, h_44⟩ := hw_39
              obtain rfl := (e_42).symm
              have hX_45 : XT feC9_41 (ecd9_25 + 1) (((kt ++ L1) ++ L_29) ++ [1803]) (ep9_26) := ⟨by rw [List.length_append, (hX_36).1]; rfl, by have h6 := (hX_36).1; have h7 := (hX_36).2.1; have h8 := hXT.1; have h9 := hXT.2.1; (try simp only [List.length_append] at h6); omega, h_44⟩
              refine lv_iinc (v := nI (i + 1)) (lv' := [(2, .int (nI (i + 1))), (0, .ref bl), (1, .int 3)]) hx hb dX5_readEither_45 hl (k := 2) rfl (nI_add i 1) (by decide) rfl (fun ls hl => ?_)
              refine lv_goto (tgt := 12) hx hb dX5_readEither_48 (by decide) ?_
              exact ih12 (i + 1) _ _ _ _ (L1 ++ (L_29 ++ [1803])) (m2) (by omega) (by omega) (⟨hE9.trans (ps_go hy9 eP_30), by omega⟩) (by omega) (by simp only [List.length_append, List.length_cons, List.length_nil]; omega) (XT.as (XT.as (hX_45))) (hC_43) _ _ (hK.sub [0, 1] rfl) (hP.sub [1, 0, 2] rfl) (hD.sub [1, 0, 2] (by decide) rfl) hS ls (lv_sub hl [1, 2, 0] rfl)
            · skip
              refine lv_if_ne (tgt := 39) hx hb dX5_readEither_34 (by decide) (fun c_46 => absurd c_46 (by decide)) (fun _ => ?_)
              refine lv_iconst (v := 0) hx hb dX5_readEither_37 (by decide) ?_
              rw [hQ]
              have hP9 := hP.sub (ws' := [(zo7iirrrririii bl esg (nI ecl) eW eA eE eC (nI ecd9_25) aTp (nI ez) (nI ep9_26) (nI em9_27)), (zaI aTp cTp 100 fTp), (zaI eC ceC 100 feC9_28)]) [0, 1, 2] rfl
              have hD9 := hD.sub (ws' := [(zo7iirrrririii bl esg (nI ecl) eW eA eE eC (nI ecd9_25) aTp (nI ez) (nI ep9_26) (nI em9_27)), (zaI aTp cTp 100 fTp), (zaI eC ceC 100 feC9_28)]) [0, 1, 2] (by decide) rfl
              have hK9 := hK.sub (tys' := [(cTp, .int), (ceC, .int)]) [0, 1] rfl
              exact W.zret (v := 0) hx hb hr rfl (fun tQ htQ hWQ => ⟨⟨0, (ecd9_25, ep9_26, em9_27, feC9_28), rfl, Or.inr ⟨rfl, hE9.trans (ps_bad hy9 eP_30), by omega, by omega, by first | omega | (have := (hXT).2.1; omega), hC_35⟩, by rw [htQ]; exact hP9, va_K.moved hWQ.alike hK9, hD9⟩, hS.F htQ⟩) hS.2.2 dX5_readEither_38
          · skip
            obtain rfl := (e_21).symm
            refine lv_if_eq (tgt := 51) hx hb dX5_readEither_26 (by decide) (fun _ => ?_) (fun c_47 => absurd c_47 (by decide))
            refine lv_iconst (v := 1) hx hb dX5_readEither_51 (by decide) ?_
            rw [hQ]
            have hP9 := hP.sub (ws' := [(zo7iirrrririii bl esg (nI ecl) eW eA eE eC (nI ecd2) aTp (nI ez) (nI ep2) (nI em2)), (zaI aTp cTp 100 fTp), (zaI eC ceC 100 feC2)]) [1, 2, 0] rfl
            have hD9 := hD.sub (ws' := [(zo7iirrrririii bl esg (nI ecl) eW eA eE eC (nI ecd2) aTp (nI ez) (nI ep2) (nI em2)), (zaI aTp cTp 100 fTp), (zaI eC ceC 100 feC2)]) [1, 2, 0] (by decide) rfl
            have hK9 := hK.sub (tys' := [(cTp, .int), (ceC, .int)]) [1, 0] rfl
            exact W.zret (v := 1) hx hb hr rfl (fun tQ htQ hWQ => ⟨⟨1, (ecd2, ep2, em2, feC2), rfl, Or.inl ⟨rfl, L1, hE9.trans (ps_end hn9), by omega, by omega, by omega, by (try simp only [List.length_append, List.length_cons, List.length_nil]); omega, hX2, zC2⟩, by rw [htQ]; exact hP9, va_K.moved hWQ.alike hK9, hD9⟩, hS.F htQ⟩) hS.2.2 dX5_readEither_52
    exact L12 _ (0) _ _ _ _ (L_7) (101) (Nat.lt_succ_self _) (by omega) (⟨pSm_s eP_8, by omega⟩) (by omega) (by omega) (hX_14) (hC_13) _ _ (hK.sub [0, 1] rfl) (hP.sub [0, 1, 2] rfl) (hD.sub [0, 1, 2] (by decide) rfl) hS ls (lv_sub hl [1, 2, 0] rfl)
  · skip
    refine lv_if_ne (tgt := 10) hx hb dX5_readEither_5 (by decide) (fun c_48 => absurd c_48 (by decide)) (fun _ => ?_)
    refine lv_iconst (v := 0) hx hb dX5_readEither_8 (by decide) ?_
    rw [hQ]
    have hP9 := hP.sub (ws' := [(zo7iirrrririii bl esg (nI ecl) eW eA eE eC (nI ecd9_3) aTp (nI ez) (nI ep9_4) (nI em9_5)), (zaI aTp cTp 100 fTp), (zaI eC ceC 100 feC9_6)]) [0, 1, 2] rfl
    have hD9 := hD.sub (ws' := [(zo7iirrrririii bl esg (nI ecl) eW eA eE eC (nI ecd9_3) aTp (nI ez) (nI ep9_4) (nI em9_5)), (zaI aTp cTp 100 fTp), (zaI eC ceC 100 feC9_6)]) [0, 1, 2] (by decide) rfl
    have hK9 := hK.sub (tys' := [(cTp, .int), (ceC, .int)]) [0, 1] rfl
    exact W.zret (v := 0) hx hb hr rfl (fun tQ htQ hWQ => ⟨⟨0, (ecd9_3, ep9_4, em9_5, feC9_6), rfl, Or.inr ⟨rfl, pSm_n eP_8, by omega, by omega, by first | omega | (have := (hXT).2.1; omega), hC_13⟩, by rw [htQ]; exact hP9, va_K.moved hWQ.alike hK9, hD9⟩, hS.F htQ⟩) hS.2.2 dX5_readEither_9
end mg15f
section mg15f

theorem kc_xPlain2_0 : ∀ w ∈ wsX50, w ∈ wsX5_readPlain := fun w h => List.mem_cons_of_mem _ (gin_wsX50 w h)
theorem kc_xPlain2_1 : (.fieldLink RX5 34 "MistHeaps$Hill" "at" "I" : Cond) ∈ wsX5_readPlain := kc_of 124 rfl rfl rfl
set_option maxHeartbeats 4000000 in
set_option maxRecDepth 100000 in
theorem c_xPlain2 (l : Launch) (dC : Nat → ClassId) (dI : Nat → Nat → Nat) (sK sV : Nat → Nat) (bl : Nat) (aTp : Nat) (eW : Nat) (eA : Nat) (eE : Nat) (eC : Nat) (ecl : Nat) (ecd : Nat) (esg : Int32) (cTp : ClassId) (ceC : ClassId) (fTp : Nat → Int32) (feC : Nat → Int32) (ez : Nat) (ep : Nat) (em : Nat) (ss : Nat → Nat) (kt : List Nat) (sz : Nat) (hez : ez ≤ 100) (hep : ep ≤ ez) (hem : em ≤ 99) (hXT : XT feC ecd kt ep) (zeC : ∀ k0, k0 < 100 → okC (feC k0)) (gX : TX fTp ez ss) : Met l yX5_readPlain wsX5_readPlain ({ frames := 14, cells := 0, slots := 0, locals := 311 } : Room) (va_Pc [.ref bl, .int 2] (fun U => U.heap.size = sz ∧ va_P (dC, dI) vwCl [(zo7iirrrririii bl esg (nI ecl) eW eA eE eC (nI ecd) aTp (nI ez) (nI ep) (nI em)), (zaI aTp cTp 100 fTp), (zaI eC ceC 100 feC)] U.heap ∧ va_K (dC, dI) vwCl [(cTp, .int), (ceC, .int)] U ∧ va_D (fun _ => True) [(zo7iirrrririii bl esg (nI ecl) eW eA eE eC (nI ecd) aTp (nI ez) (nI ep) (nI em)), (zaI aTp cTp 100 fTp), (zaI eC ceC 100 feC)] ∧ Gs sK sV (va_A [(zo7iirrrririii bl esg (nI ecl) eW eA eE eC (nI ecd) aTp (nI ez) (nI ep) (nI em)), (zaI aTp cTp 100 fTp), (zaI eC ceC 100 feC)] sz) U)) (va_Qi (fun (r : Int32) (u : (Nat) × (Nat) × (Nat) × (Nat → Int32)) => match u with | (ecd9, ep9, em9, feC9) => (r = 1 ∧ ∃ L0 : List Nat, pFac ss 3 ep = (some L0, ep9) ∧ ep + 3 ≤ ep9 ∧ ep9 ≤ ez ∧ em9 ≤ 99 ∧ L0.length + ep ≤ ep9 ∧ XT feC9 ecd9 (kt ++ L0) ep9 ∧ ∀ k0, k0 < 100 → okC (feC9 k0)) ∨ (r = 0 ∧ pFac ss 3 ep = (none, ep9) ∧ ep9 ≤ ez + 2 ∧ em9 ≤ 99 ∧ ecd9 ≤ 100 ∧ ∀ k0, k0 < 100 → okC (feC9 k0))) (fun (u : (Nat) × (Nat) × (Nat) × (Nat → Int32)) (t : State) => match u with | (ecd9, ep9, em9, feC9) => va_P (dC, dI) vwCl [(zo7iirrrririii bl esg (nI ecl) eW eA eE eC (nI ecd9) aTp (nI ez) (nI ep9) (nI em9)), (zaI aTp cTp 100 fTp), (zaI eC ceC 100 feC9)] t.heap ∧ va_K (dC, dI) vwCl [(cTp, .int), (ceC, .int)] t ∧ va_D (va_A [(zo7iirrrririii bl esg (nI ecl) eW eA eE eC (nI ecd) aTp (nI ez) (nI ep) (nI em)), (zaI aTp cTp 100 fTp), (zaI eC ceC 100 feC)] sz) [(zo7iirrrririii bl esg (nI ecl) eW eA eE eC (nI ecd9) aTp (nI ez) (nI ep9) (nI em9)), (zaI aTp cTp 100 fTp), (zaI eC ceC 100 feC9)]) (va_A [(zo7iirrrririii bl esg (nI ecl) eW eA eE eC (nI ecd) aTp (nI ez) (nI ep) (nI em)), (zaI aTp cTp 100 fTp), (zaI eC ceC 100 feC)] sz)) 0 0 (va_A [(zo7iirrrririii bl esg (nI ecl) eW eA eE eC (nI ecd) aTp (nI ez) (nI ep) (nI em)), (zaI aTp cTp 100 fTp), (zaI eC ceC 100 feC)] sz) := by
  refine met_ofQ (cc := cX5_readPlain) (maxL := 3) (ret := (some .boolean)) (by decide) rfl ?_
  intro p e s m args below meth c s₁ Q B hml hv hQ
  obtain ⟨rfl, hsz, hP, hK, hD0, hE⟩ := hv
  have hx := B.exec
  have hb := B.bytes
  have hr := B.returns
  have hts := atoms_spec (ws := wsX5_readPlain) B.pre
  have hown : s.vm.findClass RX5 = some m.cls := findClass_of_methodNamed B.named
  have hlocks := B.notSynchronized
  subst hsz
  have hD := hD0.self (sz := s.heap.size)
  generalize hAe : va_A [(zo7iirrrririii bl esg (nI ecl) eW eA eE eC (nI ecd) aTp (nI ez) (nI ep) (nI em)), (zaI aTp cTp 100 fTp), (zaI eC ceC 100 feC)] s.heap.size = A at hD hQ hE ⊢
  have hA : ∀ q : Nat, s.heap.size ≤ q → A q := fun q h => by rw [← hAe]; exact Or.inr h
  have hS : va_S A s.heap s.heap [] := va_S.rf
  have hl := lv_entry [.ref bl, .int 2] (n := 3) (Nat.le_of_ble_eq_true rfl)
  rw [lg_entry_eq]
  generalize (lg_sl [.ref bl, .int 2] ++ List.replicate (3 - (lg_sl [.ref bl, .int 2]).length) Slot.unset).toArray = ls at hl ⊢
  generalize hag : ([.ref bl, .int 2] : List Value).toArray = args at hts hQ ⊢
  have hl : lv_has ls 3 [(0, .ref bl), (1, .int 2)] := hl
  obtain ⟨H, hH⟩ : ∃ H : Heap, H = s.heap := ⟨_, rfl⟩
  rw [← hH] at hP
  rw [← hH]
  have hS : va_S A s.heap H [] := by rw [hH]; exact hS
  obtain ⟨locs, hlo⟩ : ∃ L : List Loc, L = [] := ⟨_, rfl⟩
  rw [← hlo] at hS
  rw [← hlo]
  clear hH hlo
  refine lv_aload_n hx hb dX5_readPlain_0 rfl (lv_at hl 0 rfl) ?_
  have hPc := hP.sub (ws' := [(zo7iirrrririii bl esg (nI ecl) eW eA eE eC (nI ecd) aTp (nI ez) (nI ep) (nI em)), (zaI aTp cTp 100 fTp)]) [0, 1] rfl
  have hKc := hK.sub (tys' := [(cTp, .int)]) [0] rfl
  refine vp_callSi (va_runV (As := []) (rest := []) ⟨hx, hb, hml, hown, hts⟩ (c_xSign l dC dI bl aTp eW eA eE eC ecl ecd esg cTp fTp ez ep em ss (hez) (by omega) (gX)) (cwV 0 hts gX5_readPlain_X5_sign rfl rfl rfl hd_yX5_sign ⟨Nat.le_of_ble_eq_true rfl, Nat.le_of_ble_eq_true rfl⟩) ⟨fun a U g mk q => by obtain ⟨q0, qP, qK⟩ := q; exact ⟨q0, mvP g mk a qP, mvK g mk a qK⟩, va_recv hK hP (ci := 7) (q := (RX5, TX5, 11)) (q0 := 0) rfl rfl, fun U hU hW => ⟨rfl, by rw [hU]; exact hPc, va_K.moved hW.alike hKc⟩⟩ rfl rfl hl.1 rfl (lv_room (Nat.le_of_ble_eq_true rfl)) dX5_readPlain_1 ⟨Nat.le_of_ble_eq_true rfl, Nat.le_of_ble_eq_true rfl⟩).run (fun r_1 hw_2 => ?_)
  obtain rfl := hw_2
  have hs8 := gX.2.2 (ep)
  refine lv_istore_n (lv' := [(2, .int (nI (ss ep))), (0, .ref bl), (1, .int 2)]) hx hb dX5_readPlain_4 rfl hl (by decide) rfl (fun ls hl => ?_)
  refine lv_iload_n hx hb dX5_readPlain_5 rfl (lv_at hl 0 rfl) ?_
  refine lv_bipush (v := 33) hx hb dX5_readPlain_6 (by decide) ?_
  refine lv_icmp_eq (tgt := 22) hx hb dX5_readPlain_8 (by decide) (fun c_3 => ?_) (fun c_3 => ?_)
  · skip
    have c_3 : (ss ep) = 33 := (nI_eq (a := (ss ep)) (b := 33) (by omega) (by omega)).mp c_3
    have hc : ss ep = 33 := c_3
    have hlt : ep < ez := Nat.lt_of_not_le (fun z => by have := gX.2.1 ep z; omega)
    refine lv_iload_n hx hb dX5_readPlain_22 rfl (lv_at hl 2 rfl) ?_
    refine lv_iconst (v := 5) hx hb dX5_readPlain_23 (by decide) ?_
    refine lv_icmp_lt (tgt := 29) hx hb dX5_readPlain_24 (by decide) (fun _ => ?_) (fun c_4 => absurd c_4 (by decide))
    refine lv_aload_n hx hb dX5_readPlain_29 rfl (lv_at hl 1 rfl) ?_
    refine lv_dup hx hb dX5_readPlain_30 rfl ?_
    refine va_get (D := (dC, dI)) (ci := 7) (v := .int (nI ep)) (C := RX5) (T := TX5) (N := 11) hx hb hts kc_xPlain2_0 hown hK hP 0 rfl rfl 9 (by decide) (hts (.fieldLink RX5 34 "MistHeaps$Hill" "at" "I") kc_xPlain2_1) (fun _ h9 => h9) rfl dX5_readPlain_31 ?_
    refine lv_iconst (v := 1) hx hb dX5_readPlain_34 (by decide) ?_
    refine lv_iadd hx hb dX5_readPlain_35 ?_
    refine qi_as (y := nI (ep + 1)) (nI_add ep 1) ?_
    refine va_put (D := (dC, dI)) (ci := 7) (v := .int (nI (ep + 1))) (ty := .int) (C := RX5) (T := TX5) (N := 11) hx hb hts kc_xPlain2_0 tyX5 tyX5_ok nmX5 hown hK hP hD hS 0 rfl rfl 9 (by decide) (hts (.fieldLink RX5 34 "MistHeaps$Hill" "at" "I") kc_xPlain2_1) (fun _ h9 => h9) rfl (by decide +kernel) rfl rfl (Nat.le_of_ble_eq_true rfl) dX5_readPlain_36 (fun H locs hP hD hS => ?_)
    have hP : va_P (dC, dI) vwCl [(zo7iirrrririii bl esg (nI ecl) eW eA eE eC (nI ecd) aTp (nI ez) (nI (ep + 1)) (nI em)), (zaI aTp cTp 100 fTp), (zaI eC ceC 100 feC)] H := hP
    have hD : va_D A [(zo7iirrrririii bl esg (nI ecl) eW eA eE eC (nI ecd) aTp (nI ez) (nI (ep + 1)) (nI em)), (zaI aTp cTp 100 fTp), (zaI eC ceC 100 feC)] := hD
    refine lv_iload_n hx hb dX5_readPlain_39 rfl (lv_at hl 0 rfl) ?_
    refine lv_bipush (v := 40) hx hb dX5_readPlain_40 (by decide) ?_
    refine lv_icmp_ne (tgt := 70) hx hb dX5_readPlain_42 (by decide) (fun c_5 => ?_) (fun c_5 => absurd c_5 (fun z9 => absurd ((nI_eq (a := ss ep) (b := 40) (by omega) (by omega)).mp z9) (by omega)))
    have c_5 : ¬ (ss ep) = 40 := fun q => c_5 ((nI_eq (a := (ss ep)) (b := 40) (by omega) (by omega)).mpr q)
    refine lv_aload_n hx hb dX5_readPlain_70 rfl (lv_at hl 1 rfl) ?_
    refine lv_iload_n hx hb dX5_readPlain_71 rfl (lv_at hl 2 rfl) ?_
    refine lv_iconst (v := 1) hx hb dX5_readPlain_72 (by decide) ?_
    refine lv_iadd hx hb dX5_readPlain_73 ?_
    refine qi_as (y := 3) (by decide) ?_
    have hPc := hP.sub (ws' := [(zo7iirrrririii bl esg (nI ecl) eW eA eE eC (nI ecd) aTp (nI ez) (nI (ep + 1)) (nI em)), (zaI aTp cTp 100 fTp), (zaI eC ceC 100 feC)]) [0, 1, 2] rfl
    have hDc := hD.sub (ws' := [(zo7iirrrririii bl esg (nI ecl) eW eA eE eC (nI ecd) aTp (nI ez) (nI (ep + 1)) (nI em)), (zaI aTp cTp 100 fTp), (zaI eC ceC 100 feC)]) [0, 1, 2] (by decide) rfl
    have hKc := hK.sub (tys' := [(cTp, .int), (ceC, .int)]) [0, 1] rfl
    have hFc := va_free (wc := [(zo7iirrrririii bl esg (nI ecl) eW eA eE eC (nI ecd) aTp (nI ez) (nI (ep + 1)) (nI em)), (zaI aTp cTp 100 fTp), (zaI eC ceC 100 feC)]) hD hS hA [0, 1, 2] rfl
    refine va_calli (va_runV (As := [.int 3]) (rest := []) ⟨hx, hb, hml, hown, hts⟩ (c_xPlain3 l dC dI sK sV bl aTp eW eA eE eC ecl ecd esg cTp ceC fTp feC ez (ep + 1) em ss kt H.size (hez) (by omega) (by omega) ((hXT).mono (by omega)) (zeC) (gX)) (cwV 1 hts gX5_readPlain_X5_readPlain rfl rfl rfl hd_yX5_readPlain ⟨Nat.le_of_ble_eq_true rfl, Nat.le_of_ble_eq_true rfl⟩) ⟨fun a U g mk q => by obtain ⟨q0, q1, qP, qK, qD, qhE⟩ := q; exact ⟨q0, mvz g mk a q1, mvP g mk a qP, mvK g mk a qK, qD, qhE.mv g mk a⟩, va_recv hK hP (ci := 7) (q := (RX5, TX5, 11)) (q0 := 0) rfl rfl, fun U hU hW => ⟨rfl, by rw [hU], by rw [hU]; exact hPc, va_K.moved hW.alike hKc, hDc.weaken (fun _ _ _ _ => trivial), hE.call hS hU hW (fun q h => hFc q h)⟩⟩ rfl rfl hl.1 rfl (lv_room (Nat.le_of_ble_eq_true rfl)) dX5_readPlain_74 ⟨Nat.le_of_ble_eq_true rfl, Nat.le_of_ble_eq_true rfl⟩) hS (fun q _ h => hFc q h) hFc (fun r_6 u tC H1 locs htC hvm hw_7 hB hz1 hk1 hS => ?_)
    obtain ⟨ecd9_8, ep9_9, em9_10, feC9_11⟩ := u
    try dsimp only at hw_7 hB
    obtain ⟨hP1, hK1, hD1⟩ := hB
    rw [htC] at hP1
    have hK1 := va_K.moved hvm.symm hK1
    obtain ⟨hP, hD⟩ := va_join (wr := []) (w1 := [(zo7iirrrririii bl esg (nI ecl) eW eA eE eC (nI ecd9_8) aTp (nI ez) (nI ep9_9) (nI em9_10)), (zaI aTp cTp 100 fTp), (zaI eC ceC 100 feC9_11)]) hP hD [0, 1, 2] [] rfl rfl (by decide) (by decide) hk1 hFc hP1 hD1
    have hK := (hK.sub (tys' := []) [] rfl).app hK1
    generalize H1 = H at hP hS ⊢
    have hP : va_P (dC, dI) vwCl [(zo7iirrrririii bl esg (nI ecl) eW eA eE eC (nI ecd9_8) aTp (nI ez) (nI ep9_9) (nI em9_10)), (zaI aTp cTp 100 fTp), (zaI eC ceC 100 feC9_11)] H := hP
    have hD : va_D A [(zo7iirrrririii bl esg (nI ecl) eW eA eE eC (nI ecd9_8) aTp (nI ez) (nI ep9_9) (nI em9_10)), (zaI aTp cTp 100 fTp), (zaI eC ceC 100 feC9_11)] := hD
    have hK : va_K (dC, dI) vwCl [(cTp, .int), (ceC, .int)] s := hK
    rcases hw_7 with ⟨rfl, L_12, eP_13, h_14, h_15, h_16, h_17, hX_19, hC_18⟩ | ⟨rfl, eP_13, h_14, h_15, h_16, hC_18⟩
    · skip
      refine lv_if_ne (tgt := 82) hx hb dX5_readPlain_77 (by decide) (fun _ => ?_) (fun c_20 => absurd c_20 (by decide))
      refine lv_aload_n hx hb dX5_readPlain_82 rfl (lv_at hl 1 rfl) ?_
      refine lv_iconst (v := (-1)) hx hb dX5_readPlain_83 (by decide) ?_
      have hPc := hP.sub (ws' := [(zo7iirrrririii bl esg (nI ecl) eW eA eE eC (nI ecd9_8) aTp (nI ez) (nI ep9_9) (nI em9_10)), (zaI eC ceC 100 feC9_11)]) [0, 2] rfl
      have hDc := hD.sub (ws' := [(zo7iirrrririii bl esg (nI ecl) eW eA eE eC (nI ecd9_8) aTp (nI ez) (nI ep9_9) (nI em9_10)), (zaI eC ceC 100 feC9_11)]) [0, 2] (by decide) rfl
      have hKc := hK.sub (tys' := [(ceC, .int)]) [1] rfl
      have hFc := va_free (wc := [(zo7iirrrririii bl esg (nI ecl) eW eA eE eC (nI ecd9_8) aTp (nI ez) (nI ep9_9) (nI em9_10)), (zaI eC ceC 100 feC9_11)]) hD hS hA [0, 2] rfl
      refine va_callv (va_runV (As := [.int (-1)]) (rest := []) ⟨hx, hb, hml, hown, hts⟩ (c_xCode l dC dI bl aTp eW eA eE eC ecl ecd9_8 (-1) esg ceC feC9_11 ez ep9_9 em9_10 (kt ++ L_12) 1801 H.size ((hX_19).mono (by omega)) (by have h6 := (hX_19).1; have h7 := (hX_19).2.1; have h8 := hXT.1; have h9 := hXT.2.1; (try simp only [List.length_append] at h6); omega) (hC_18) (Or.inl rfl) (by decide)) (cwV 1 hts gX5_readPlain_X5_code rfl rfl rfl hd_yX5_code ⟨Nat.le_of_ble_eq_true rfl, Nat.le_of_ble_eq_true rfl⟩) ⟨fun a U g mk q => by obtain ⟨q0, q1, qP, qK, qD⟩ := q; exact ⟨q0, mvz g mk a q1, mvP g mk a qP, mvK g mk a qK, qD⟩, va_recv hK hP (ci := 7) (q := (RX5, TX5, 11)) (q0 := 0) rfl rfl, fun U hU hW => ⟨rfl, by rw [hU], by rw [hU]; exact hPc, va_K.moved hW.alike hKc, hDc.weaken (fun _ _ _ _ => trivial)⟩⟩ rfl rfl hl.1 rfl (lv_room (Nat.le_of_ble_eq_true rfl)) dX5_readPlain_84 ⟨Nat.le_of_ble_eq_true rfl, Nat.le_of_ble_eq_true rfl⟩) hS (fun q _ h => hFc q h) hFc (fun u tC H1 locs htC hvm hw_22 hB hz1 hk1 hS => ?_)
      obtain ⟨ecd9_23, feC9_24⟩ := u
      try dsimp only at hw_22 hB
      obtain ⟨hP1, hK1, hD1⟩ := hB
      rw [htC] at hP1
      have hK1 := va_K.moved hvm.symm hK1
      obtain ⟨hP, hD⟩ := va_join (wr := [(zaI aTp cTp 100 fTp)]) (w1 := [(zo7iirrrririii bl esg (nI ecl) eW eA eE eC (nI ecd9_23) aTp (nI ez) (nI ep9_9) (nI em9_10)), (zaI eC ceC 100 feC9_24)]) hP hD [0, 2] [1] rfl rfl (by decide) (by decide) hk1 hFc hP1 hD1
      have hK := (hK.sub (tys' := [(cTp, .int)]) [0] rfl).app hK1
      generalize H1 = H at hP hS ⊢
      have hP : va_P (dC, dI) vwCl [(zaI aTp cTp 100 fTp), (zo7iirrrririii bl esg (nI ecl) eW eA eE eC (nI ecd9_23) aTp (nI ez) (nI ep9_9) (nI em9_10)), (zaI eC ceC 100 feC9_24)] H := hP
      have hD : va_D A [(zaI aTp cTp 100 fTp), (zo7iirrrririii bl esg (nI ecl) eW eA eE eC (nI ecd9_23) aTp (nI ez) (nI ep9_9) (nI em9_10)), (zaI eC ceC 100 feC9_24)] := hD
      have hK : va_K (dC, dI) vwCl [(cTp, .int), (ceC, .int)] s := hK
      obtain ⟨e_25, hC_26, h_27⟩ := hw_22
      obtain rfl := (e_25).symm
      have hX_28 : XT feC9_24 (ecd9_8 + 1) ((kt ++ L_12) ++ [1801]) (ep9_9) := ⟨by rw [List.length_append, (hX_19).1]; rfl, by have h6 := (hX_19).1; have h7 := (hX_19).2.1; have h8 := hXT.1; have h9 := hXT.2.1; (try simp only [List.length_append] at h6); omega, h_27⟩
      refine lv_iconst (v := 1) hx hb dX5_readPlain_87 (by decide) ?_
      rw [hQ]
      have hP9 := hP.sub (ws' := [(zo7iirrrririii bl esg (nI ecl) eW eA eE eC (nI (ecd9_8 + 1)) aTp (nI ez) (nI ep9_9) (nI em9_10)), (zaI aTp cTp 100 fTp), (zaI eC ceC 100 feC9_24)]) [1, 0, 2] rfl
      have hD9 := hD.sub (ws' := [(zo7iirrrririii bl esg (nI ecl) eW eA eE eC (nI (ecd9_8 + 1)) aTp (nI ez) (nI ep9_9) (nI em9_10)), (zaI aTp cTp 100 fTp), (zaI eC ceC 100 feC9_24)]) [1, 0, 2] (by decide) rfl
      have hK9 := hK.sub (tys' := [(cTp, .int), (ceC, .int)]) [0, 1] rfl
      exact W.zret (v := 1) hx hb hr rfl (fun tQ htQ hWQ => ⟨⟨1, ((ecd9_8 + 1), ep9_9, em9_10, feC9_24), rfl, Or.inl ⟨rfl, (L_12 ++ [1801]), pf_n1 (l := 2) hc eP_13, by omega, by omega, by omega, by (try simp only [List.length_append, List.length_cons, List.length_nil]); omega, XT.as ((hX_28).mono (by omega)), hC_26⟩, by rw [htQ]; exact hP9, va_K.moved hWQ.alike hK9, hD9⟩, hS.F htQ⟩) hS.2.2 dX5_readPlain_88
    · skip
      refine lv_if_ne (tgt := 82) hx hb dX5_readPlain_77 (by decide) (fun c_29 => absurd c_29 (by decide)) (fun _ => ?_)
      refine lv_iconst (v := 0) hx hb dX5_readPlain_80 (by decide) ?_
      rw [hQ]
      have hP9 := hP.sub (ws' := [(zo7iirrrririii bl esg (nI ecl) eW eA eE eC (nI ecd9_8) aTp (nI ez) (nI ep9_9) (nI em9_10)), (zaI aTp cTp 100 fTp), (zaI eC ceC 100 feC9_11)]) [0, 1, 2] rfl
      have hD9 := hD.sub (ws' := [(zo7iirrrririii bl esg (nI ecl) eW eA eE eC (nI ecd9_8) aTp (nI ez) (nI ep9_9) (nI em9_10)), (zaI aTp cTp 100 fTp), (zaI eC ceC 100 feC9_11)]) [0, 1, 2] (by decide) rfl
      have hK9 := hK.sub (tys' := [(cTp, .int), (ceC, .int)]) [0, 1] rfl
      exact W.zret (v := 0) hx hb hr rfl (fun tQ htQ hWQ => ⟨⟨0, (ecd9_8, ep9_9, em9_10, feC9_11), rfl, Or.inr ⟨rfl, pf_n0 (l := 2) hc eP_13, by omega, by omega, by first | omega | (have := (hXT).2.1; omega), hC_18⟩, by rw [htQ]; exact hP9, va_K.moved hWQ.alike hK9, hD9⟩, hS.F htQ⟩) hS.2.2 dX5_readPlain_81
  · skip
    have c_3 : ¬ (ss ep) = 33 := fun q => c_3 ((nI_eq (a := (ss ep)) (b := 33) (by omega) (by omega)).mpr q)
    have hn33 : ¬ ss ep = 33 := c_3
    refine lv_iload_n hx hb dX5_readPlain_11 rfl (lv_at hl 0 rfl) ?_
    refine lv_bipush (v := 40) hx hb dX5_readPlain_12 (by decide) ?_
    refine lv_icmp_eq (tgt := 22) hx hb dX5_readPlain_14 (by decide) (fun c_30 => ?_) (fun c_30 => ?_)
    · skip
      have c_30 : (ss ep) = 40 := (nI_eq (a := (ss ep)) (b := 40) (by omega) (by omega)).mp c_30
      have hc : ss ep = 40 := c_30
      have hlt : ep < ez := Nat.lt_of_not_le (fun z => by have := gX.2.1 ep z; omega)
      refine lv_iload_n hx hb dX5_readPlain_22 rfl (lv_at hl 2 rfl) ?_
      refine lv_iconst (v := 5) hx hb dX5_readPlain_23 (by decide) ?_
      refine lv_icmp_lt (tgt := 29) hx hb dX5_readPlain_24 (by decide) (fun _ => ?_) (fun c_31 => absurd c_31 (by decide))
      refine lv_aload_n hx hb dX5_readPlain_29 rfl (lv_at hl 1 rfl) ?_
      refine lv_dup hx hb dX5_readPlain_30 rfl ?_
      refine va_get (D := (dC, dI)) (ci := 7) (v := .int (nI ep)) (C := RX5) (T := TX5) (N := 11) hx hb hts kc_xPlain2_0 hown hK hP 0 rfl rfl 9 (by decide) (hts (.fieldLink RX5 34 "MistHeaps$Hill" "at" "I") kc_xPlain2_1) (fun _ h9 => h9) rfl dX5_readPlain_31 ?_
      refine lv_iconst (v := 1) hx hb dX5_readPlain_34 (by decide) ?_
      refine lv_iadd hx hb dX5_readPlain_35 ?_
      refine qi_as (y := nI (ep + 1)) (nI_add ep 1) ?_
      refine va_put (D := (dC, dI)) (ci := 7) (v := .int (nI (ep + 1))) (ty := .int) (C := RX5) (T := TX5) (N := 11) hx hb hts kc_xPlain2_0 tyX5 tyX5_ok nmX5 hown hK hP hD hS 0 rfl rfl 9 (by decide) (hts (.fieldLink RX5 34 "MistHeaps$Hill" "at" "I") kc_xPlain2_1) (fun _ h9 => h9) rfl (by decide +kernel) rfl rfl (Nat.le_of_ble_eq_true rfl) dX5_readPlain_36 (fun H locs hP hD hS => ?_)
      have hP : va_P (dC, dI) vwCl [(zo7iirrrririii bl esg (nI ecl) eW eA eE eC (nI ecd) aTp (nI ez) (nI (ep + 1)) (nI em)), (zaI aTp cTp 100 fTp), (zaI eC ceC 100 feC)] H := hP
      have hD : va_D A [(zo7iirrrririii bl esg (nI ecl) eW eA eE eC (nI ecd) aTp (nI ez) (nI (ep + 1)) (nI em)), (zaI aTp cTp 100 fTp), (zaI eC ceC 100 feC)] := hD
      refine lv_iload_n hx hb dX5_readPlain_39 rfl (lv_at hl 0 rfl) ?_
      refine lv_bipush (v := 40) hx hb dX5_readPlain_40 (by decide) ?_
      refine lv_icmp_ne (tgt := 70) hx hb dX5_readPlain_42 (by decide) (fun c_32 => absurd c_32 (fun z9 => z9 ((nI_eq (a := ss ep) (b := 40) (by omega) (by omega)).mpr hc))) (fun c_32 => ?_)
      have c_32 : (ss ep) = 40 := (nI_eq (a := (ss ep)) (b := 40) (by omega) (by omega)).mp c_32
      refine lv_aload_n hx hb dX5_readPlain_45 rfl (lv_at hl 1 rfl) ?_
      refine lv_iload_n hx hb dX5_readPlain_46 rfl (lv_at hl 2 rfl) ?_
      refine lv_iconst (v := 1) hx hb dX5_readPlain_47 (by decide) ?_
      refine lv_iadd hx hb dX5_readPlain_48 ?_
      refine qi_as (y := 3) (by decide) ?_
      have hPc := hP.sub (ws' := [(zo7iirrrririii bl esg (nI ecl) eW eA eE eC (nI ecd) aTp (nI ez) (nI (ep + 1)) (nI em)), (zaI aTp cTp 100 fTp), (zaI eC ceC 100 feC)]) [0, 1, 2] rfl
      have hDc := hD.sub (ws' := [(zo7iirrrririii bl esg (nI ecl) eW eA eE eC (nI ecd) aTp (nI ez) (nI (ep + 1)) (nI em)), (zaI aTp cTp 100 fTp), (zaI eC ceC 100 feC)]) [0, 1, 2] (by decide) rfl
      have hKc := hK.sub (tys' := [(cTp, .int), (ceC, .int)]) [0, 1] rfl
      have hFc := va_free (wc := [(zo7iirrrririii bl esg (nI ecl) eW eA eE eC (nI ecd) aTp (nI ez) (nI (ep + 1)) (nI em)), (zaI aTp cTp 100 fTp), (zaI eC ceC 100 feC)]) hD hS hA [0, 1, 2] rfl
      refine va_calli (va_runV (As := [.int 3]) (rest := []) ⟨hx, hb, hml, hown, hts⟩ (c_xEither3 l dC dI sK sV bl aTp eW eA eE eC ecl ecd esg cTp ceC fTp feC ez (ep + 1) em ss kt H.size (hez) (by omega) (by omega) ((hXT).mono (by omega)) (zeC) (gX)) (cwV 1 hts gX5_readPlain_X5_readEither rfl rfl rfl hd_yX5_readEither ⟨Nat.le_of_ble_eq_true rfl, Nat.le_of_ble_eq_true rfl⟩) ⟨fun a U g mk q => by obtain ⟨q0, q1, qP, qK, qD, qhE⟩ := q; exact ⟨q0, mvz g mk a q1, mvP g mk a qP, mvK g mk a qK, qD, qhE.mv g mk a⟩, va_recv hK hP (ci := 7) (q := (RX5, TX5, 11)) (q0 := 0) rfl rfl, fun U hU hW => ⟨rfl, by rw [hU], by rw [hU]; exact hPc, va_K.moved hW.alike hKc, hDc.weaken (fun _ _ _ _ => trivial), hE.call hS hU hW (fun q h => hFc q h)⟩⟩ rfl rfl hl.1 rfl (lv_room (Nat.le_of_ble_eq_true rfl)) dX5_readPlain_49 ⟨Nat.le_of_ble_eq_true rfl, Nat.le_of_ble_eq_true rfl⟩) hS (fun q _ h => hFc q h) hFc (fun r_33 u tC H1 locs htC hvm hw_34 hB hz1 hk1 hS => ?_)
      obtain ⟨ecd9_35, ep9_36, em9_37, feC9_38⟩ := u
      try dsimp only at hw_34 hB
      obtain ⟨hP1, hK1, hD1⟩ := hB
      rw [htC] at hP1
      have hK1 := va_K.moved hvm.symm hK1
      obtain ⟨hP, hD⟩ := va_join (wr := []) (w1 := [(zo7iirrrririii bl esg (nI ecl) eW eA eE eC (nI ecd9_35) aTp (nI ez) (nI ep9_36) (nI em9_37)), (zaI aTp cTp 100 fTp), (zaI eC ceC 100 feC9_38)]) hP hD [0, 1, 2] [] rfl rfl (by decide) (by decide) hk1 hFc hP1 hD1
      have hK := (hK.sub (tys' := []) [] rfl).app hK1
      generalize H1 = H at hP hS ⊢
      have hP : va_P (dC, dI) vwCl [(zo7iirrrririii bl esg (nI ecl) eW eA eE eC (nI ecd9_35) aTp (nI ez) (nI ep9_36) (nI em9_37)), (zaI aTp cTp 100 fTp), (zaI eC ceC 100 feC9_38)] H := hP
      have hD : va_D A [(zo7iirrrririii bl esg (nI ecl) eW eA eE eC (nI ecd9_35) aTp (nI ez) (nI ep9_36) (nI em9_37)), (zaI aTp cTp 100 fTp), (zaI eC ceC 100 feC9_38)] := hD
      have hK : va_K (dC, dI) vwCl [(cTp, .int), (ceC, .int)] s := hK
      rcases hw_34 with ⟨rfl, L_39, eP_40, h_41, h_42, h_43, h_44, hX_46, hC_45⟩ | ⟨rfl, eP_40, h_41, h_42, h_43, hC_45⟩
      · skip
        refine lv_if_eq (tgt := 68) hx hb dX5_readPlain_52 (by decide) (fun c_47 => absurd c_47 (by decide)) (fun _ => ?_)
        refine lv_aload_n hx hb dX5_readPlain_55 rfl (lv_at hl 1 rfl) ?_
        refine lv_bipush (v := 41) hx hb dX5_readPlain_56 (by decide) ?_
        have hPc := hP.sub (ws' := [(zo7iirrrririii bl esg (nI ecl) eW eA eE eC (nI ecd9_35) aTp (nI ez) (nI ep9_36) (nI em9_37)), (zaI aTp cTp 100 fTp)]) [0, 1] rfl
        have hDc := hD.sub (ws' := [(zo7iirrrririii bl esg (nI ecl) eW eA eE eC (nI ecd9_35) aTp (nI ez) (nI ep9_36) (nI em9_37)), (zaI aTp cTp 100 fTp)]) [0, 1] (by decide) rfl
        have hKc := hK.sub (tys' := [(cTp, .int)]) [0] rfl
        have hFc := va_free (wc := [(zo7iirrrririii bl esg (nI ecl) eW eA eE eC (nI ecd9_35) aTp (nI ez) (nI ep9_36) (nI em9_37)), (zaI aTp cTp 100 fTp)]) hD hS hA [0, 1] rfl
        refine va_calli (va_runV (As := [.int 41]) (rest := []) ⟨hx, hb, hml, hown, hts⟩ (c_xReadSign l dC dI bl aTp eW eA eE eC 41 ecl ecd9_35 esg cTp fTp ez ep9_36 em9_37 ss H.size (hez) (by omega) (by decide) (by decide) (gX)) (cwV 1 hts gX5_readPlain_X5_readSign rfl rfl rfl hd_yX5_readSign ⟨Nat.le_of_ble_eq_true rfl, Nat.le_of_ble_eq_true rfl⟩) ⟨fun a U g mk q => by obtain ⟨q0, q1, qP, qK, qD⟩ := q; exact ⟨q0, mvz g mk a q1, mvP g mk a qP, mvK g mk a qK, qD⟩, va_recv hK hP (ci := 7) (q := (RX5, TX5, 11)) (q0 := 0) rfl rfl, fun U hU hW => ⟨rfl, by rw [hU], by rw [hU]; exact hPc, va_K.moved hW.alike hKc, hDc.weaken (fun _ _ _ _ => trivial)⟩⟩ rfl rfl hl.1 rfl (lv_room (Nat.le_of_ble_eq_true rfl)) dX5_readPlain_58 ⟨Nat.le_of_ble_eq_true rfl, Nat.le_of_ble_eq_true rfl⟩) hS (fun q _ h => hFc q h) hFc (fun r_48 u tC H1 locs htC hvm hw_49 hB hz1 hk1 hS => ?_)
        obtain ⟨ep9_50, rfl⟩ : ∃ z, z = u := ⟨_, rfl⟩
        try dsimp only at hw_49 hB
        obtain ⟨hP1, hK1, hD1⟩ := hB
        rw [htC] at hP1
        have hK1 := va_K.moved hvm.symm hK1
        obtain ⟨hP, hD⟩ := va_join (wr := [(zaI eC ceC 100 feC9_38)]) (w1 := [(zo7iirrrririii bl esg (nI ecl) eW eA eE eC (nI ecd9_35) aTp (nI ez) (nI ep9_50) (nI em9_37)), (zaI aTp cTp 100 fTp)]) hP hD [0, 1] [2] rfl rfl (by decide) (by decide) hk1 hFc hP1 hD1
        have hK := (hK.sub (tys' := [(ceC, .int)]) [1] rfl).app hK1
        generalize H1 = H at hP hS ⊢
        have hP : va_P (dC, dI) vwCl [(zaI eC ceC 100 feC9_38), (zo7iirrrririii bl esg (nI ecl) eW eA eE eC (nI ecd9_35) aTp (nI ez) (nI ep9_50) (nI em9_37)), (zaI aTp cTp 100 fTp)] H := hP
        have hD : va_D A [(zaI eC ceC 100 feC9_38), (zo7iirrrririii bl esg (nI ecl) eW eA eE eC (nI ecd9_35) aTp (nI ez) (nI ep9_50) (nI em9_37)), (zaI aTp cTp 100 fTp)] := hD
        have hK : va_K (dC, dI) vwCl [(ceC, .int), (cTp, .int)] s := hK
        rcases hw_49 with ⟨rfl, hy41, h_51, e_52⟩ | ⟨rfl, hn41, e_52⟩
        · skip
          obtain rfl := (e_52).symm
          refine lv_if_eq (tgt := 68) hx hb dX5_readPlain_61 (by decide) (fun c_53 => absurd c_53 (by decide)) (fun _ => ?_)
          refine lv_iconst (v := 1) hx hb dX5_readPlain_64 (by decide) ?_
          refine lv_goto (tgt := 69) hx hb dX5_readPlain_65 (by decide) ?_
          rw [hQ]
          have hP9 := hP.sub (ws' := [(zo7iirrrririii bl esg (nI ecl) eW eA eE eC (nI ecd9_35) aTp (nI ez) (nI (ep9_36 + 1)) (nI em9_37)), (zaI aTp cTp 100 fTp), (zaI eC ceC 100 feC9_38)]) [1, 2, 0] rfl
          have hD9 := hD.sub (ws' := [(zo7iirrrririii bl esg (nI ecl) eW eA eE eC (nI ecd9_35) aTp (nI ez) (nI (ep9_36 + 1)) (nI em9_37)), (zaI aTp cTp 100 fTp), (zaI eC ceC 100 feC9_38)]) [1, 2, 0] (by decide) rfl
          have hK9 := hK.sub (tys' := [(cTp, .int), (ceC, .int)]) [1, 0] rfl
          exact W.zret (v := 1) hx hb hr rfl (fun tQ htQ hWQ => ⟨⟨1, (ecd9_35, (ep9_36 + 1), em9_37, feC9_38), rfl, Or.inl ⟨rfl, L_39, pf_b2 (l := 2) hc eP_40 hy41, by omega, by omega, by omega, by (try simp only [List.length_append, List.length_cons, List.length_nil]); omega, (hX_46).mono (by omega), hC_45⟩, by rw [htQ]; exact hP9, va_K.moved hWQ.alike hK9, hD9⟩, hS.F htQ⟩) hS.2.2 dX5_readPlain_69
        · skip
          obtain rfl := (e_52).symm
          refine lv_if_eq (tgt := 68) hx hb dX5_readPlain_61 (by decide) (fun _ => ?_) (fun c_54 => absurd c_54 (by decide))
          refine lv_iconst (v := 0) hx hb dX5_readPlain_68 (by decide) ?_
          rw [hQ]
          have hP9 := hP.sub (ws' := [(zo7iirrrririii bl esg (nI ecl) eW eA eE eC (nI ecd9_35) aTp (nI ez) (nI ep9_36) (nI em9_37)), (zaI aTp cTp 100 fTp), (zaI eC ceC 100 feC9_38)]) [1, 2, 0] rfl
          have hD9 := hD.sub (ws' := [(zo7iirrrririii bl esg (nI ecl) eW eA eE eC (nI ecd9_35) aTp (nI ez) (nI ep9_36) (nI em9_37)), (zaI aTp cTp 100 fTp), (zaI eC ceC 100 feC9_38)]) [1, 2, 0] (by decide) rfl
          have hK9 := hK.sub (tys' := [(cTp, .int), (ceC, .int)]) [1, 0] rfl
          exact W.zret (v := 0) hx hb hr rfl (fun tQ htQ hWQ => ⟨⟨0, (ecd9_35, ep9_36, em9_37, feC9_38), rfl, Or.inr ⟨rfl, pf_b1 (l := 2) hc eP_40 hn41, by omega, by omega, by first | omega | (have := (hX_46).2.1; omega), hC_45⟩, by rw [htQ]; exact hP9, va_K.moved hWQ.alike hK9, hD9⟩, hS.F htQ⟩) hS.2.2 dX5_readPlain_69
      · skip
        refine lv_if_eq (tgt := 68) hx hb dX5_readPlain_52 (by decide) (fun _ => ?_) (fun c_55 => absurd c_55 (by decide))
        refine lv_iconst (v := 0) hx hb dX5_readPlain_68 (by decide) ?_
        rw [hQ]
        have hP9 := hP.sub (ws' := [(zo7iirrrririii bl esg (nI ecl) eW eA eE eC (nI ecd9_35) aTp (nI ez) (nI ep9_36) (nI em9_37)), (zaI aTp cTp 100 fTp), (zaI eC ceC 100 feC9_38)]) [0, 1, 2] rfl
        have hD9 := hD.sub (ws' := [(zo7iirrrririii bl esg (nI ecl) eW eA eE eC (nI ecd9_35) aTp (nI ez) (nI ep9_36) (nI em9_37)), (zaI aTp cTp 100 fTp), (zaI eC ceC 100 feC9_38)]) [0, 1, 2] (by decide) rfl
        have hK9 := hK.sub (tys' := [(cTp, .int), (ceC, .int)]) [0, 1] rfl
        exact W.zret (v := 0) hx hb hr rfl (fun tQ htQ hWQ => ⟨⟨0, (ecd9_35, ep9_36, em9_37, feC9_38), rfl, Or.inr ⟨rfl, pf_b0 (l := 2) hc eP_40, by omega, by omega, by first | omega | (have := (hXT).2.1; omega), hC_45⟩, by rw [htQ]; exact hP9, va_K.moved hWQ.alike hK9, hD9⟩, hS.F htQ⟩) hS.2.2 dX5_readPlain_69
    · skip
      have c_30 : ¬ (ss ep) = 40 := fun q => c_30 ((nI_eq (a := (ss ep)) (b := 40) (by omega) (by omega)).mpr q)
      have hn40 : ¬ ss ep = 40 := c_30
      refine lv_aload_n hx hb dX5_readPlain_17 rfl (lv_at hl 1 rfl) ?_
      have hPc := hP.sub (ws' := [(zo7iirrrririii bl esg (nI ecl) eW eA eE eC (nI ecd) aTp (nI ez) (nI ep) (nI em)), (zaI aTp cTp 100 fTp), (zaI eC ceC 100 feC)]) [0, 1, 2] rfl
      have hDc := hD.sub (ws' := [(zo7iirrrririii bl esg (nI ecl) eW eA eE eC (nI ecd) aTp (nI ez) (nI ep) (nI em)), (zaI aTp cTp 100 fTp), (zaI eC ceC 100 feC)]) [0, 1, 2] (by decide) rfl
      have hKc := hK.sub (tys' := [(cTp, .int), (ceC, .int)]) [0, 1] rfl
      have hFc := va_free (wc := [(zo7iirrrririii bl esg (nI ecl) eW eA eE eC (nI ecd) aTp (nI ez) (nI ep) (nI em)), (zaI aTp cTp 100 fTp), (zaI eC ceC 100 feC)]) hD hS hA [0, 1, 2] rfl
      refine va_calli (va_runV (As := []) (rest := []) ⟨hx, hb, hml, hown, hts⟩ (c_readTest l dC dI sK sV bl aTp eW eA eE eC ecl ecd esg cTp ceC fTp feC ez ep em ss kt H.size (hez) (by omega) (by omega) ((hXT).mono (by omega)) (zeC) (gX)) (cwV 0 hts gX5_readPlain_X5_readTest rfl rfl rfl hd_yX5_readTest ⟨Nat.le_of_ble_eq_true rfl, Nat.le_of_ble_eq_true rfl⟩) ⟨fun a U g mk q => by obtain ⟨q0, q1, qP, qK, qD, qhE⟩ := q; exact ⟨q0, mvz g mk a q1, mvP g mk a qP, mvK g mk a qK, qD, qhE.mv g mk a⟩, va_recv hK hP (ci := 7) (q := (RX5, TX5, 11)) (q0 := 0) rfl rfl, fun U hU hW => ⟨rfl, by rw [hU], by rw [hU]; exact hPc, va_K.moved hW.alike hKc, hDc.weaken (fun _ _ _ _ => trivial), hE.call hS hU hW (fun q h => hFc q h)⟩⟩ rfl rfl hl.1 rfl (lv_room (Nat.le_of_ble_eq_true rfl)) dX5_readPlain_18 ⟨Nat.le_of_ble_eq_true rfl, Nat.le_of_ble_eq_true rfl⟩) hS (fun q _ h => hFc q h) hFc (fun r_56 u tC H1 locs htC hvm hw_57 hB hz1 hk1 hS => ?_)
      obtain ⟨ecd9_58, ep9_59, em9_60, feC9_61⟩ := u
      try dsimp only at hw_57 hB
      obtain ⟨hP1, hK1, hD1⟩ := hB
      rw [htC] at hP1
      have hK1 := va_K.moved hvm.symm hK1
      obtain ⟨hP, hD⟩ := va_join (wr := []) (w1 := [(zo7iirrrririii bl esg (nI ecl) eW eA eE eC (nI ecd9_58) aTp (nI ez) (nI ep9_59) (nI em9_60)), (zaI aTp cTp 100 fTp), (zaI eC ceC 100 feC9_61)]) hP hD [0, 1, 2] [] rfl rfl (by decide) (by decide) hk1 hFc hP1 hD1
      have hK := (hK.sub (tys' := []) [] rfl).app hK1
      generalize H1 = H at hP hS ⊢
      have hP : va_P (dC, dI) vwCl [(zo7iirrrririii bl esg (nI ecl) eW eA eE eC (nI ecd9_58) aTp (nI ez) (nI ep9_59) (nI em9_60)), (zaI aTp cTp 100 fTp), (zaI eC ceC 100 feC9_61)] H := hP
      have hD : va_D A [(zo7iirrrririii bl esg (nI ecl) eW eA eE eC (nI ecd9_58) aTp (nI ez) (nI ep9_59) (nI em9_60)), (zaI aTp cTp 100 fTp), (zaI eC ceC 100 feC9_61)] := hD
      have hK : va_K (dC, dI) vwCl [(cTp, .int), (ceC, .int)] s := hK
      rw [hQ]
      have hP9 := hP.sub (ws' := [(zo7iirrrririii bl esg (nI ecl) eW eA eE eC (nI ecd9_58) aTp (nI ez) (nI ep9_59) (nI em9_60)), (zaI aTp cTp 100 fTp), (zaI eC ceC 100 feC9_61)]) [0, 1, 2] rfl
      have hD9 := hD.sub (ws' := [(zo7iirrrririii bl esg (nI ecl) eW eA eE eC (nI ecd9_58) aTp (nI ez) (nI ep9_59) (nI em9_60)), (zaI aTp cTp 100 fTp), (zaI eC ceC 100 feC9_61)]) [0, 1, 2] (by decide) rfl
      have hK9 := hK.sub (tys' := [(cTp, .int), (ceC, .int)]) [0, 1] rfl
      exact W.zret (v := r_56) hx hb hr (by first | rfl | (rcases hw_57 with ⟨e9, _⟩ | ⟨e9, _⟩ <;> rw [e9] <;> rfl)) (fun tQ htQ hWQ => ⟨⟨r_56, (ecd9_58, ep9_59, em9_60, feC9_61), rfl, by rw [show pFac ss 3 ep = pTest ss ep from pf_t hn33 hn40]; exact hw_57, by rw [htQ]; exact hP9, va_K.moved hWQ.alike hK9, hD9⟩, hS.F htQ⟩) hS.2.2 dX5_readPlain_21

theorem kc_xBoth2_0 : ∀ w ∈ wsX50, w ∈ wsX5_readBoth := fun w h => List.mem_cons_of_mem _ (gin_wsX50 w h)
theorem kc_xBoth2_1 : (.fieldLink RX5 31 "MistHeaps$Hill" "size" "I" : Cond) ∈ wsX5_readBoth := kc_of 123 rfl rfl rfl
set_option maxHeartbeats 4000000 in
set_option maxRecDepth 100000 in
theorem c_xBoth2 (l : Launch) (dC : Nat → ClassId) (dI : Nat → Nat → Nat) (sK sV : Nat → Nat) (bl : Nat) (aTp : Nat) (eW : Nat) (eA : Nat) (eE : Nat) (eC : Nat) (ecl : Nat) (ecd : Nat) (esg : Int32) (cTp : ClassId) (ceC : ClassId) (fTp : Nat → Int32) (feC : Nat → Int32) (ez : Nat) (ep : Nat) (em : Nat) (ss : Nat → Nat) (kt : List Nat) (sz : Nat) (hez : ez ≤ 100) (hep : ep ≤ ez) (hem : em ≤ 99) (hXT : XT feC ecd kt ep) (zeC : ∀ k0, k0 < 100 → okC (feC k0)) (gX : TX fTp ez ss) : Met l yX5_readBoth wsX5_readBoth ({ frames := 15, cells := 0, slots := 0, locals := 333 } : Room) (va_Pc [.ref bl, .int 2] (fun U => U.heap.size = sz ∧ va_P (dC, dI) vwCl [(zo7iirrrririii bl esg (nI ecl) eW eA eE eC (nI ecd) aTp (nI ez) (nI ep) (nI em)), (zaI aTp cTp 100 fTp), (zaI eC ceC 100 feC)] U.heap ∧ va_K (dC, dI) vwCl [(cTp, .int), (ceC, .int)] U ∧ va_D (fun _ => True) [(zo7iirrrririii bl esg (nI ecl) eW eA eE eC (nI ecd) aTp (nI ez) (nI ep) (nI em)), (zaI aTp cTp 100 fTp), (zaI eC ceC 100 feC)] ∧ Gs sK sV (va_A [(zo7iirrrririii bl esg (nI ecl) eW eA eE eC (nI ecd) aTp (nI ez) (nI ep) (nI em)), (zaI aTp cTp 100 fTp), (zaI eC ceC 100 feC)] sz) U)) (va_Qi (fun (r : Int32) (u : (Nat) × (Nat) × (Nat) × (Nat → Int32)) => match u with | (ecd9, ep9, em9, feC9) => (r = 1 ∧ ∃ L0 : List Nat, pEv ss (pFac ss 3) ep = (some L0, ep9) ∧ ep + 3 ≤ ep9 ∧ ep9 ≤ ez ∧ em9 ≤ 99 ∧ L0.length + ep ≤ ep9 ∧ XT feC9 ecd9 (kt ++ L0) ep9 ∧ ∀ k0, k0 < 100 → okC (feC9 k0)) ∨ (r = 0 ∧ pEv ss (pFac ss 3) ep = (none, ep9) ∧ ep9 ≤ ez + 2 ∧ em9 ≤ 99 ∧ ecd9 ≤ 100 ∧ ∀ k0, k0 < 100 → okC (feC9 k0))) (fun (u : (Nat) × (Nat) × (Nat) × (Nat → Int32)) (t : State) => match u with | (ecd9, ep9, em9, feC9) => va_P (dC, dI) vwCl [(zo7iirrrririii bl esg (nI ecl) eW eA eE eC (nI ecd9) aTp (nI ez) (nI ep9) (nI em9)), (zaI aTp cTp 100 fTp), (zaI eC ceC 100 feC9)] t.heap ∧ va_K (dC, dI) vwCl [(cTp, .int), (ceC, .int)] t ∧ va_D (va_A [(zo7iirrrririii bl esg (nI ecl) eW eA eE eC (nI ecd) aTp (nI ez) (nI ep) (nI em)), (zaI aTp cTp 100 fTp), (zaI eC ceC 100 feC)] sz) [(zo7iirrrririii bl esg (nI ecl) eW eA eE eC (nI ecd9) aTp (nI ez) (nI ep9) (nI em9)), (zaI aTp cTp 100 fTp), (zaI eC ceC 100 feC9)]) (va_A [(zo7iirrrririii bl esg (nI ecl) eW eA eE eC (nI ecd) aTp (nI ez) (nI ep) (nI em)), (zaI aTp cTp 100 fTp), (zaI eC ceC 100 feC)] sz)) 0 0 (va_A [(zo7iirrrririii bl esg (nI ecl) eW eA eE eC (nI ecd) aTp (nI ez) (nI ep) (nI em)), (zaI aTp cTp 100 fTp), (zaI eC ceC 100 feC)] sz) := by
  refine met_ofQ (cc := cX5_readBoth) (maxL := 3) (ret := (some .boolean)) (by decide) rfl ?_
  intro p e s m args below meth c s₁ Q B hml hv hQ
  obtain ⟨rfl, hsz, hP, hK, hD0, hE⟩ := hv
  have hx := B.exec
  have hb := B.bytes
  have hr := B.returns
  have hts := atoms_spec (ws := wsX5_readBoth) B.pre
  have hown : s.vm.findClass RX5 = some m.cls := findClass_of_methodNamed B.named
  have hlocks := B.notSynchronized
  subst hsz
  have hD := hD0.self (sz := s.heap.size)
  generalize hAe : va_A [(zo7iirrrririii bl esg (nI ecl) eW eA eE eC (nI ecd) aTp (nI ez) (nI ep) (nI em)), (zaI aTp cTp 100 fTp), (zaI eC ceC 100 feC)] s.heap.size = A at hD hQ hE ⊢
  have hA : ∀ q : Nat, s.heap.size ≤ q → A q := fun q h => by rw [← hAe]; exact Or.inr h
  have hS : va_S A s.heap s.heap [] := va_S.rf
  have hl := lv_entry [.ref bl, .int 2] (n := 3) (Nat.le_of_ble_eq_true rfl)
  rw [lg_entry_eq]
  generalize (lg_sl [.ref bl, .int 2] ++ List.replicate (3 - (lg_sl [.ref bl, .int 2]).length) Slot.unset).toArray = ls at hl ⊢
  generalize hag : ([.ref bl, .int 2] : List Value).toArray = args at hts hQ ⊢
  have hl : lv_has ls 3 [(0, .ref bl), (1, .int 2)] := hl
  obtain ⟨H, hH⟩ : ∃ H : Heap, H = s.heap := ⟨_, rfl⟩
  rw [← hH] at hP
  rw [← hH]
  have hS : va_S A s.heap H [] := by rw [hH]; exact hS
  obtain ⟨locs, hlo⟩ : ∃ L : List Loc, L = [] := ⟨_, rfl⟩
  rw [← hlo] at hS
  rw [← hlo]
  clear hH hlo
  refine lv_aload_n hx hb dX5_readBoth_0 rfl (lv_at hl 0 rfl) ?_
  refine lv_iload_n hx hb dX5_readBoth_1 rfl (lv_at hl 1 rfl) ?_
  have hPc := hP.sub (ws' := [(zo7iirrrririii bl esg (nI ecl) eW eA eE eC (nI ecd) aTp (nI ez) (nI ep) (nI em)), (zaI aTp cTp 100 fTp), (zaI eC ceC 100 feC)]) [0, 1, 2] rfl
  have hDc := hD.sub (ws' := [(zo7iirrrririii bl esg (nI ecl) eW eA eE eC (nI ecd) aTp (nI ez) (nI ep) (nI em)), (zaI aTp cTp 100 fTp), (zaI eC ceC 100 feC)]) [0, 1, 2] (by decide) rfl
  have hKc := hK.sub (tys' := [(cTp, .int), (ceC, .int)]) [0, 1] rfl
  have hFc := va_free (wc := [(zo7iirrrririii bl esg (nI ecl) eW eA eE eC (nI ecd) aTp (nI ez) (nI ep) (nI em)), (zaI aTp cTp 100 fTp), (zaI eC ceC 100 feC)]) hD hS hA [0, 1, 2] rfl
  refine va_calli (va_runV (As := [.int 2]) (rest := []) ⟨hx, hb, hml, hown, hts⟩ (c_xPlain2 l dC dI sK sV bl aTp eW eA eE eC ecl ecd esg cTp ceC fTp feC ez ep em ss kt H.size (hez) (by omega) (by omega) ((hXT).mono (by omega)) (zeC) (gX)) (cwV 1 hts gX5_readBoth_X5_readPlain rfl rfl rfl hd_yX5_readPlain ⟨Nat.le_of_ble_eq_true rfl, Nat.le_of_ble_eq_true rfl⟩) ⟨fun a U g mk q => by obtain ⟨q0, q1, qP, qK, qD, qhE⟩ := q; exact ⟨q0, mvz g mk a q1, mvP g mk a qP, mvK g mk a qK, qD, qhE.mv g mk a⟩, va_recv hK hP (ci := 7) (q := (RX5, TX5, 11)) (q0 := 0) rfl rfl, fun U hU hW => ⟨rfl, by rw [hU], by rw [hU]; exact hPc, va_K.moved hW.alike hKc, hDc.weaken (fun _ _ _ _ => trivial), hE.call hS hU hW (fun q h => hFc q h)⟩⟩ rfl rfl hl.1 rfl (lv_room (Nat.le_of_ble_eq_true rfl)) dX5_readBoth_2 ⟨Nat.le_of_ble_eq_true rfl, Nat.le_of_ble_eq_true rfl⟩) hS (fun q _ h => hFc q h) hFc (fun r_1 u tC H1 locs htC hvm hw_2 hB hz1 hk1 hS => ?_)
  obtain ⟨ecd9_3, ep9_4, em9_5, feC9_6⟩ := u
  try dsimp only at hw_2 hB
  obtain ⟨hP1, hK1, hD1⟩ := hB
  rw [htC] at hP1
  have hK1 := va_K.moved hvm.symm hK1
  obtain ⟨hP, hD⟩ := va_join (wr := []) (w1 := [(zo7iirrrririii bl esg (nI ecl) eW eA eE eC (nI ecd9_3) aTp (nI ez) (nI ep9_4) (nI em9_5)), (zaI aTp cTp 100 fTp), (zaI eC ceC 100 feC9_6)]) hP hD [0, 1, 2] [] rfl rfl (by decide) (by decide) hk1 hFc hP1 hD1
  have hK := (hK.sub (tys' := []) [] rfl).app hK1
  generalize H1 = H at hP hS ⊢
  have hP : va_P (dC, dI) vwCl [(zo7iirrrririii bl esg (nI ecl) eW eA eE eC (nI ecd9_3) aTp (nI ez) (nI ep9_4) (nI em9_5)), (zaI aTp cTp 100 fTp), (zaI eC ceC 100 feC9_6)] H := hP
  have hD : va_D A [(zo7iirrrririii bl esg (nI ecl) eW eA eE eC (nI ecd9_3) aTp (nI ez) (nI ep9_4) (nI em9_5)), (zaI aTp cTp 100 fTp), (zaI eC ceC 100 feC9_6)] := hD
  have hK : va_K (dC, dI) vwCl [(cTp, .int), (ceC, .int)] s := hK
  rcases hw_2 with ⟨rfl, L_7, eP_8, h_9, h_10, h_11, h_12, hX_14, hC_13⟩ | ⟨rfl, eP_8, h_9, h_10, h_11, hC_13⟩
  · skip
    refine lv_if_ne (tgt := 10) hx hb dX5_readBoth_5 (by decide) (fun _ => ?_) (fun c_15 => absurd c_15 (by decide))
    refine lv_iconst (v := 0) hx hb dX5_readBoth_10 (by decide) ?_
    refine lv_istore_n (lv' := [(2, .int 0), (0, .ref bl), (1, .int 2)]) hx hb dX5_readBoth_11 rfl hl (by decide) rfl (fun ls hl => ?_)
    have L12 : ∀ (nF : Nat) (i : Nat) (ecd2 : Nat) (ep2 : Nat) (em2 : Nat) (feC2 : Nat → Int32) (L1 : List Nat) (m1 : Nat), ez - i < nF → (i ≤ ez) → (pEv ss (pFac ss 3) ep = pSep ss 38 1802 (pFac ss 3) m1 (some L1, ep2) ∧ 101 ≤ m1 + ep2) → (ep + 3 + 2 * i ≤ ep2 ∧ ep2 ≤ ez ∧ em2 ≤ 99) → (L1.length + ep ≤ ep2) → (XT feC2 ecd2 (kt ++ L1) ep2) → (∀ k0, k0 < 100 → okC (feC2 k0)) → ∀ (H : Heap) (locs : List Loc), va_K (dC, dI) vwCl [(cTp, .int), (ceC, .int)] s → va_P (dC, dI) vwCl [(zo7iirrrririii bl esg (nI ecl) eW eA eE eC (nI ecd2) aTp (nI ez) (nI ep2) (nI em2)), (zaI aTp cTp 100 fTp), (zaI eC ceC 100 feC2)] H → va_D A [(zo7iirrrririii bl esg (nI ecl) eW eA eE eC (nI ecd2) aTp (nI ez) (nI ep2) (nI em2)), (zaI aTp cTp 100 fTp), (zaI eC ceC 100 feC2)] → va_S A s.heap H locs → ∀ (ls : Array Slot), lv_has ls 3 [(0, .ref bl), (1, .int 2), (2, .int (nI i))] → W p l e ({ frames := 15, cells := 0, slots := 0, locals := 333 } : Room) s m args below meth c H locs 0 0 Q (F0 m 12 ls []) := by
      intro nF
      induction nF with
      | zero => intro i ecd2 ep2 em2 feC2 L1 m1 hm; exact absurd hm (Nat.not_lt_zero _)
      | succ nF ih12 =>
        intro i ecd2 ep2 em2 feC2 L1 m1 hm hii hE9 hp2 hL2 hX2 zC2 H locs hK hP hD hS ls hl
        obtain ⟨hE9, hm9⟩ := hE9
        obtain ⟨hp2a, hp2b, hp2c⟩ := hp2
        refine lv_iload_n hx hb dX5_readBoth_12 rfl (lv_at hl 2 rfl) ?_
        refine lv_aload_n hx hb dX5_readBoth_13 rfl (lv_at hl 0 rfl) ?_
        refine va_get (D := (dC, dI)) (ci := 7) (v := .int (nI ez)) (C := RX5) (T := TX5) (N := 11) hx hb hts kc_xBoth2_0 hown hK hP 0 rfl rfl 8 (by decide) (hts (.fieldLink RX5 31 "MistHeaps$Hill" "size" "I") kc_xBoth2_1) (fun _ h9 => h9) rfl dX5_readBoth_14 ?_
        refine lv_icmp_ge (tgt := 51) hx hb dX5_readBoth_17 (by decide) (fun c_16 => ?_) (fun c_16 => ?_)
        · skip
          have c_16 : ez ≤ i := (nI_leI (a := ez) (b := i) (by omega) (by omega)).mp c_16
          refine lv_iconst (v := 1) hx hb dX5_readBoth_51 (by decide) ?_
          rw [hQ]
          have hP9 := hP.sub (ws' := [(zo7iirrrririii bl esg (nI ecl) eW eA eE eC (nI ecd2) aTp (nI ez) (nI ep2) (nI em2)), (zaI aTp cTp 100 fTp), (zaI eC ceC 100 feC2)]) [0, 1, 2] rfl
          have hD9 := hD.sub (ws' := [(zo7iirrrririii bl esg (nI ecl) eW eA eE eC (nI ecd2) aTp (nI ez) (nI ep2) (nI em2)), (zaI aTp cTp 100 fTp), (zaI eC ceC 100 feC2)]) [0, 1, 2] (by decide) rfl
          have hK9 := hK.sub (tys' := [(cTp, .int), (ceC, .int)]) [0, 1] rfl
          exact W.zret (v := 1) hx hb hr rfl (fun tQ htQ hWQ => ⟨⟨1, (ecd2, ep2, em2, feC2), rfl, Or.inl ⟨rfl, L1, hE9.trans (ps_end (fun z => by have := gX.2.1 ep2 (by omega); omega)), by omega, by omega, by omega, by (try simp only [List.length_append, List.length_cons, List.length_nil]); omega, hX2, zC2⟩, by rw [htQ]; exact hP9, va_K.moved hWQ.alike hK9, hD9⟩, hS.F htQ⟩) hS.2.2 dX5_readBoth_52
        · skip
          have c_16 : ¬ ez ≤ i := fun q => c_16 ((nI_leI (a := ez) (b := i) (by omega) (by omega)).mpr q)
          refine lv_aload_n hx hb dX5_readBoth_20 rfl (lv_at hl 0 rfl) ?_
          refine lv_bipush (v := 38) hx hb dX5_readBoth_21 (by decide) ?_
          have hPc := hP.sub (ws' := [(zo7iirrrririii bl esg (nI ecl) eW eA eE eC (nI ecd2) aTp (nI ez) (nI ep2) (nI em2)), (zaI aTp cTp 100 fTp)]) [0, 1] rfl
          have hDc := hD.sub (ws' := [(zo7iirrrririii bl esg (nI ecl) eW eA eE eC (nI ecd2) aTp (nI ez) (nI ep2) (nI em2)), (zaI aTp cTp 100 fTp)]) [0, 1] (by decide) rfl
          have hKc := hK.sub (tys' := [(cTp, .int)]) [0] rfl
          have hFc := va_free (wc := [(zo7iirrrririii bl esg (nI ecl) eW eA eE eC (nI ecd2) aTp (nI ez) (nI ep2) (nI em2)), (zaI aTp cTp 100 fTp)]) hD hS hA [0, 1] rfl
          refine va_calli (va_runV (As := [.int 38]) (rest := []) ⟨hx, hb, hml, hown, hts⟩ (c_xReadSign l dC dI bl aTp eW eA eE eC 38 ecl ecd2 esg cTp fTp ez ep2 em2 ss H.size (hez) (by omega) (by decide) (by decide) (gX)) (cwV 1 hts gX5_readBoth_X5_readSign rfl rfl rfl hd_yX5_readSign ⟨Nat.le_of_ble_eq_true rfl, Nat.le_of_ble_eq_true rfl⟩) ⟨fun a U g mk q => by obtain ⟨q0, q1, qP, qK, qD⟩ := q; exact ⟨q0, mvz g mk a q1, mvP g mk a qP, mvK g mk a qK, qD⟩, va_recv hK hP (ci := 7) (q := (RX5, TX5, 11)) (q0 := 0) rfl rfl, fun U hU hW => ⟨rfl, by rw [hU], by rw [hU]; exact hPc, va_K.moved hW.alike hKc, hDc.weaken (fun _ _ _ _ => trivial)⟩⟩ rfl rfl hl.1 rfl (lv_room (Nat.le_of_ble_eq_true rfl)) dX5_readBoth_23 ⟨Nat.le_of_ble_eq_true rfl, Nat.le_of_ble_eq_true rfl⟩) hS (fun q _ h => hFc q h) hFc (fun r_17 u tC H1 locs htC hvm hw_18 hB hz1 hk1 hS => ?_)
          obtain ⟨ep9_19, rfl⟩ : ∃ z, z = u := ⟨_, rfl⟩
          try dsimp only at hw_18 hB
          obtain ⟨hP1, hK1, hD1⟩ := hB
          rw [htC] at hP1
          have hK1 := va_K.moved hvm.symm hK1
          obtain ⟨hP, hD⟩ := va_join (wr := [(zaI eC ceC 100 feC2)]) (w1 := [(zo7iirrrririii bl esg (nI ecl) eW eA eE eC (nI ecd2) aTp (nI ez) (nI ep9_19) (nI em2)), (zaI aTp cTp 100 fTp)]) hP hD [0, 1] [2] rfl rfl (by decide) (by decide) hk1 hFc hP1 hD1
          have hK := (hK.sub (tys' := [(ceC, .int)]) [1] rfl).app hK1
          generalize H1 = H at hP hS ⊢
          have hP : va_P (dC, dI) vwCl [(zaI eC ceC 100 feC2), (zo7iirrrririii bl esg (nI ecl) eW eA eE eC (nI ecd2) aTp (nI ez) (nI ep9_19) (nI em2)), (zaI aTp cTp 100 fTp)] H := hP
          have hD : va_D A [(zaI eC ceC 100 feC2), (zo7iirrrririii bl esg (nI ecl) eW eA eE eC (nI ecd2) aTp (nI ez) (nI ep9_19) (nI em2)), (zaI aTp cTp 100 fTp)] := hD
          have hK : va_K (dC, dI) vwCl [(ceC, .int), (cTp, .int)] s := hK
          rcases hw_18 with ⟨rfl, hy9, h_20, e_21⟩ | ⟨rfl, hn9, e_21⟩
          · skip
            obtain rfl := (e_21).symm
            obtain ⟨m2, rfl⟩ : ∃ q : Nat, m1 = q + 1 := ⟨m1 - 1, by omega⟩
            refine lv_if_eq (tgt := 51) hx hb dX5_readBoth_26 (by decide) (fun c_22 => absurd c_22 (by decide)) (fun _ => ?_)
            refine lv_aload_n hx hb dX5_readBoth_29 rfl (lv_at hl 0 rfl) ?_
            refine lv_iload_n hx hb dX5_readBoth_30 rfl (lv_at hl 1 rfl) ?_
            have hPc := hP.sub (ws' := [(zo7iirrrririii bl esg (nI ecl) eW eA eE eC (nI ecd2) aTp (nI ez) (nI (ep2 + 1)) (nI em2)), (zaI aTp cTp 100 fTp), (zaI eC ceC 100 feC2)]) [1, 2, 0] rfl
            have hDc := hD.sub (ws' := [(zo7iirrrririii bl esg (nI ecl) eW eA eE eC (nI ecd2) aTp (nI ez) (nI (ep2 + 1)) (nI em2)), (zaI aTp cTp 100 fTp), (zaI eC ceC 100 feC2)]) [1, 2, 0] (by decide) rfl
            have hKc := hK.sub (tys' := [(cTp, .int), (ceC, .int)]) [1, 0] rfl
            have hFc := va_free (wc := [(zo7iirrrririii bl esg (nI ecl) eW eA eE eC (nI ecd2) aTp (nI ez) (nI (ep2 + 1)) (nI em2)), (zaI aTp cTp 100 fTp), (zaI eC ceC 100 feC2)]) hD hS hA [1, 2, 0] rfl
            refine va_calli (va_runV (As := [.int 2]) (rest := []) ⟨hx, hb, hml, hown, hts⟩ (c_xPlain2 l dC dI sK sV bl aTp eW eA eE eC ecl ecd2 esg cTp ceC fTp feC2 ez (ep2 + 1) em2 ss (kt ++ L1) H.size (hez) (by omega) (by omega) ((hX2).mono (by omega)) (zC2) (gX)) (cwV 1 hts gX5_readBoth_X5_readPlain rfl rfl rfl hd_yX5_readPlain ⟨Nat.le_of_ble_eq_true rfl, Nat.le_of_ble_eq_true rfl⟩) ⟨fun a U g mk q => by obtain ⟨q0, q1, qP, qK, qD, qhE⟩ := q; exact ⟨q0, mvz g mk a q1, mvP g mk a qP, mvK g mk a qK, qD, qhE.mv g mk a⟩, va_recv hK hP (ci := 7) (q := (RX5, TX5, 11)) (q0 := 1) rfl rfl, fun U hU hW => ⟨rfl, by rw [hU], by rw [hU]; exact hPc, va_K.moved hW.alike hKc, hDc.weaken (fun _ _ _ _ => trivial), hE.call hS hU hW (fun q h => hFc q h)⟩⟩ rfl rfl hl.1 rfl (lv_room (Nat.le_of_ble_eq_true rfl)) dX5_readBoth_31 ⟨Nat.le_of_ble_eq_true rfl, Nat.le_of_ble_eq_true rfl⟩) hS (fun q _ h => hFc q h) hFc (fun r_23 u tC H1 locs htC hvm hw_24 hB hz1 hk1 hS => ?_)
            obtain ⟨ecd9_25, ep9_26, em9_27, feC9_28⟩ := u
            try dsimp only at hw_24 hB
            obtain ⟨hP1, hK1, hD1⟩ := hB
            rw [htC] at hP1
            have hK1 := va_K.moved hvm.symm hK1
            obtain ⟨hP, hD⟩ := va_join (wr := []) (w1 := [(zo7iirrrririii bl esg (nI ecl) eW eA eE eC (nI ecd9_25) aTp (nI ez) (nI ep9_26) (nI em9_27)), (zaI aTp cTp 100 fTp), (zaI eC ceC 100 feC9_28)]) hP hD [1, 2, 0] [] rfl rfl (by decide) (by decide) hk1 hFc hP1 hD1
            have hK := (hK.sub (tys' := []) [] rfl).app hK1
            generalize H1 = H at hP hS ⊢
            have hP : va_P (dC, dI) vwCl [(zo7iirrrririii bl esg (nI ecl) eW eA eE eC (nI ecd9_25) aTp (nI ez) (nI ep9_26) (nI em9_27)), (zaI aTp cTp 100 fTp), (zaI eC ceC 100 feC9_28)] H := hP
            have hD : va_D A [(zo7iirrrririii bl esg (nI ecl) eW eA eE eC (nI ecd9_25) aTp (nI ez) (nI ep9_26) (nI em9_27)), (zaI aTp cTp 100 fTp), (zaI eC ceC 100 feC9_28)] := hD
            have hK : va_K (dC, dI) vwCl [(cTp, .int), (ceC, .int)] s := hK
            rcases hw_24 with ⟨rfl, L_29, eP_30, h_31, h_32, h_33, h_34, hX_36, hC_35⟩ | ⟨rfl, eP_30, h_31, h_32, h_33, hC_35⟩
            · skip
              refine lv_if_ne (tgt := 39) hx hb dX5_readBoth_34 (by decide) (fun _ => ?_) (fun c_37 => absurd c_37 (by decide))
              refine lv_aload_n hx hb dX5_readBoth_39 rfl (lv_at hl 0 rfl) ?_
              refine lv_bipush (v := (-2)) hx hb dX5_readBoth_40 (by decide) ?_
              have hPc := hP.sub (ws' := [(zo7iirrrririii bl esg (nI ecl) eW eA eE eC (nI ecd9_25) aTp (nI ez) (nI ep9_26) (nI em9_27)), (zaI eC ceC 100 feC9_28)]) [0, 2] rfl
              have hDc := hD.sub (ws' := [(zo7iirrrririii bl esg (nI ecl) eW eA eE eC (nI ecd9_25) aTp (nI ez) (nI ep9_26) (nI em9_27)), (zaI eC ceC 100 feC9_28)]) [0, 2] (by decide) rfl
              have hKc := hK.sub (tys' := [(ceC, .int)]) [1] rfl
              have hFc := va_free (wc := [(zo7iirrrririii bl esg (nI ecl) eW eA eE eC (nI ecd9_25) aTp (nI ez) (nI ep9_26) (nI em9_27)), (zaI eC ceC 100 feC9_28)]) hD hS hA [0, 2] rfl
              refine va_callv (va_runV (As := [.int (-2)]) (rest := []) ⟨hx, hb, hml, hown, hts⟩ (c_xCode l dC dI bl aTp eW eA eE eC ecl ecd9_25 (-2) esg ceC feC9_28 ez ep9_26 em9_27 ((kt ++ L1) ++ L_29) 1802 H.size ((hX_36).mono (by omega)) (by have h6 := (hX_36).1; have h7 := (hX_36).2.1; have h8 := hXT.1; have h9 := hXT.2.1; (try simp only [List.length_append] at h6); omega) (hC_35) (Or.inr (Or.inl rfl)) (by decide)) (cwV 1 hts gX5_readBoth_X5_code rfl rfl rfl hd_yX5_code ⟨Nat.le_of_ble_eq_true rfl, Nat.le_of_ble_eq_true rfl⟩) ⟨fun a U g mk q => by obtain ⟨q0, q1, qP, qK, qD⟩ := q; exact ⟨q0, mvz g mk a q1, mvP g mk a qP, mvK g mk a qK, qD⟩, va_recv hK hP (ci := 7) (q := (RX5, TX5, 11)) (q0 := 0) rfl rfl, fun U hU hW => ⟨rfl, by rw [hU], by rw [hU]; exact hPc, va_K.moved hW.alike hKc, hDc.weaken (fun _ _ _ _ => trivial)⟩⟩ rfl rfl hl.1 rfl (lv_room (Nat.le_of_ble_eq_true rfl)) dX5_readBoth_42 ⟨Nat.le_of_ble_eq_true rfl, Nat.le_of_ble_eq_true rfl⟩) hS (fun q _ h => hFc q h) hFc (fun u tC H1 locs htC hvm hw_39 hB hz1 hk1 hS => ?_)
              obtain ⟨ecd9_40, feC9_41⟩ := u
              try dsimp only at hw_39 hB
              obtain ⟨hP1, hK1, hD1⟩ := hB
              rw [htC] at hP1
              have hK1 := va_K.moved hvm.symm hK1
              obtain ⟨hP, hD⟩ := va_join (wr := [(zaI aTp cTp 100 fTp)]) (w1 := [(zo7iirrrririii bl esg (nI ecl) eW eA eE eC (nI ecd9_40) aTp (nI ez) (nI ep9_26) (nI em9_27)), (zaI eC ceC 100 feC9_41)]) hP hD [0, 2] [1] rfl rfl (by decide) (by decide) hk1 hFc hP1 hD1
              have hK := (hK.sub (tys' := [(cTp, .int)]) [0] rfl).app hK1
              generalize H1 = H at hP hS ⊢
              have hP : va_P (dC, dI) vwCl [(zaI aTp cTp 100 fTp), (zo7iirrrririii bl esg (nI ecl) eW eA eE eC (nI ecd9_40) aTp (nI ez) (nI ep9_26) (nI em9_27)), (zaI eC ceC 100 feC9_41)] H := hP
              have hD : va_D A [(zaI aTp cTp 100 fTp), (zo7iirrrririii bl esg (nI ecl) eW eA eE eC (nI ecd9_40) aTp (nI ez) (nI ep9_26) (nI em9_27)), (zaI eC ceC 100 feC9_41)] := hD
              have hK : va_K (dC, dI) vwCl [(cTp, .int), (ceC, .int)] s := hK
              obtain ⟨e_42, hC_43, h_44⟩ := hw_39
              obtain rfl := (e_42).symm
              have hX_45 : XT feC9_41 (ecd9_25 + 1) (((kt ++ L1) ++ L_29) ++ [1802]) (ep9_26) := ⟨by rw [List.length_append, (hX_36).1]; rfl, by have h6 := (hX_36).1; have h7 := (hX_36).2.1; have h8 := hXT.1; have h9 := hXT.2.1; (try simp only [List.length_append] at h6); omega, h_44⟩
              refine lv_iinc (v := nI (i + 1)) (lv' := [(2, .int (nI (i + 1))), (0, .ref bl), (1, .int 2)]) hx hb dX5_readBoth_45 hl (k := 2) rfl (nI_add i 1) (by decide) rfl (fun ls hl => ?_)
              refine lv_goto (tgt := 12) hx hb dX5_readBoth_48 (by decide) ?_
              exact ih12 (i + 1) _ _ _ _ (L1 ++ (L_29 ++ [1802])) (m2) (by omega) (by omega) (⟨hE9.trans (ps_go hy9 eP_30), by omega⟩) (by omega) (by simp only [List.length_append, List.length_cons, List.length_nil]; omega) (XT.as (XT.as (hX_45))) (hC_43) _ _ (hK.sub [0, 1] rfl) (hP.sub [1, 0, 2] rfl) (hD.sub [1, 0, 2] (by decide) rfl) hS ls (lv_sub hl [1, 2, 0] rfl)
            · skip
              refine lv_if_ne (tgt := 39) hx hb dX5_readBoth_34 (by decide) (fun c_46 => absurd c_46 (by decide)) (fun _ => ?_)
              refine lv_iconst (v := 0) hx hb dX5_readBoth_37 (by decide) ?_
              rw [hQ]
              have hP9 := hP.sub (ws' := [(zo7iirrrririii bl esg (nI ecl) eW eA eE eC (nI ecd9_25) aTp (nI ez) (nI ep9_26) (nI em9_27)), (zaI aTp cTp 100 fTp), (zaI eC ceC 100 feC9_28)]) [0, 1, 2] rfl
              have hD9 := hD.sub (ws' := [(zo7iirrrririii bl esg (nI ecl) eW eA eE eC (nI ecd9_25) aTp (nI ez) (nI ep9_26) (nI em9_27)), (zaI aTp cTp 100 fTp), (zaI eC ceC 100 feC9_28)]) [0, 1, 2] (by decide) rfl
              have hK9 := hK.sub (tys' := [(cTp, .int), (ceC, .int)]) [0, 1] rfl
              exact W.zret (v := 0) hx hb hr rfl (fun tQ htQ hWQ => ⟨⟨0, (ecd9_25, ep9_26, em9_27, feC9_28), rfl, Or.inr ⟨rfl, hE9.trans (ps_bad hy9 eP_30), by omega, by omega, by first | omega | (have := (hXT).2.1; omega), hC_35⟩, by rw [htQ]; exact hP9, va_K.moved hWQ.alike hK9, hD9⟩, hS.F htQ⟩) hS.2.2 dX5_readBoth_38
          · skip
            obtain rfl := (e_21).symm
            refine lv_if_eq (tgt := 51) hx hb dX5_readBoth_26 (by decide) (fun _ => ?_) (fun c_47 => absurd c_47 (by decide))
            refine lv_iconst (v := 1) hx hb dX5_readBoth_51 (by decide) ?_
            rw [hQ]
            have hP9 := hP.sub (ws' := [(zo7iirrrririii bl esg (nI ecl) eW eA eE eC (nI ecd2) aTp (nI ez) (nI ep2) (nI em2)), (zaI aTp cTp 100 fTp), (zaI eC ceC 100 feC2)]) [1, 2, 0] rfl
            have hD9 := hD.sub (ws' := [(zo7iirrrririii bl esg (nI ecl) eW eA eE eC (nI ecd2) aTp (nI ez) (nI ep2) (nI em2)), (zaI aTp cTp 100 fTp), (zaI eC ceC 100 feC2)]) [1, 2, 0] (by decide) rfl
            have hK9 := hK.sub (tys' := [(cTp, .int), (ceC, .int)]) [1, 0] rfl
            exact W.zret (v := 1) hx hb hr rfl (fun tQ htQ hWQ => ⟨⟨1, (ecd2, ep2, em2, feC2), rfl, Or.inl ⟨rfl, L1, hE9.trans (ps_end hn9), by omega, by omega, by omega, by (try simp only [List.length_append, List.length_cons, List.length_nil]); omega, hX2, zC2⟩, by rw [htQ]; exact hP9, va_K.moved hWQ.alike hK9, hD9⟩, hS.F htQ⟩) hS.2.2 dX5_readBoth_52
    exact L12 _ (0) _ _ _ _ (L_7) (101) (Nat.lt_succ_self _) (by omega) (⟨pEv_s eP_8, by omega⟩) (by omega) (by omega) (hX_14) (hC_13) _ _ (hK.sub [0, 1] rfl) (hP.sub [0, 1, 2] rfl) (hD.sub [0, 1, 2] (by decide) rfl) hS ls (lv_sub hl [1, 2, 0] rfl)
  · skip
    refine lv_if_ne (tgt := 10) hx hb dX5_readBoth_5 (by decide) (fun c_48 => absurd c_48 (by decide)) (fun _ => ?_)
    refine lv_iconst (v := 0) hx hb dX5_readBoth_8 (by decide) ?_
    rw [hQ]
    have hP9 := hP.sub (ws' := [(zo7iirrrririii bl esg (nI ecl) eW eA eE eC (nI ecd9_3) aTp (nI ez) (nI ep9_4) (nI em9_5)), (zaI aTp cTp 100 fTp), (zaI eC ceC 100 feC9_6)]) [0, 1, 2] rfl
    have hD9 := hD.sub (ws' := [(zo7iirrrririii bl esg (nI ecl) eW eA eE eC (nI ecd9_3) aTp (nI ez) (nI ep9_4) (nI em9_5)), (zaI aTp cTp 100 fTp), (zaI eC ceC 100 feC9_6)]) [0, 1, 2] (by decide) rfl
    have hK9 := hK.sub (tys' := [(cTp, .int), (ceC, .int)]) [0, 1] rfl
    exact W.zret (v := 0) hx hb hr rfl (fun tQ htQ hWQ => ⟨⟨0, (ecd9_3, ep9_4, em9_5, feC9_6), rfl, Or.inr ⟨rfl, pEv_n eP_8, by omega, by omega, by first | omega | (have := (hXT).2.1; omega), hC_13⟩, by rw [htQ]; exact hP9, va_K.moved hWQ.alike hK9, hD9⟩, hS.F htQ⟩) hS.2.2 dX5_readBoth_9

theorem kc_xEither2_0 : ∀ w ∈ wsX50, w ∈ wsX5_readEither := fun w h => List.mem_cons_of_mem _ (gin_wsX50 w h)
theorem kc_xEither2_1 : (.fieldLink RX5 31 "MistHeaps$Hill" "size" "I" : Cond) ∈ wsX5_readEither := kc_of 123 rfl rfl rfl
set_option maxHeartbeats 4000000 in
set_option maxRecDepth 100000 in
theorem c_xEither2 (l : Launch) (dC : Nat → ClassId) (dI : Nat → Nat → Nat) (sK sV : Nat → Nat) (bl : Nat) (aTp : Nat) (eW : Nat) (eA : Nat) (eE : Nat) (eC : Nat) (ecl : Nat) (ecd : Nat) (esg : Int32) (cTp : ClassId) (ceC : ClassId) (fTp : Nat → Int32) (feC : Nat → Int32) (ez : Nat) (ep : Nat) (em : Nat) (ss : Nat → Nat) (kt : List Nat) (sz : Nat) (hez : ez ≤ 100) (hep : ep ≤ ez) (hem : em ≤ 99) (hXT : XT feC ecd kt ep) (zeC : ∀ k0, k0 < 100 → okC (feC k0)) (gX : TX fTp ez ss) : Met l yX5_readEither wsX5_readEither ({ frames := 16, cells := 0, slots := 0, locals := 355 } : Room) (va_Pc [.ref bl, .int 2] (fun U => U.heap.size = sz ∧ va_P (dC, dI) vwCl [(zo7iirrrririii bl esg (nI ecl) eW eA eE eC (nI ecd) aTp (nI ez) (nI ep) (nI em)), (zaI aTp cTp 100 fTp), (zaI eC ceC 100 feC)] U.heap ∧ va_K (dC, dI) vwCl [(cTp, .int), (ceC, .int)] U ∧ va_D (fun _ => True) [(zo7iirrrririii bl esg (nI ecl) eW eA eE eC (nI ecd) aTp (nI ez) (nI ep) (nI em)), (zaI aTp cTp 100 fTp), (zaI eC ceC 100 feC)] ∧ Gs sK sV (va_A [(zo7iirrrririii bl esg (nI ecl) eW eA eE eC (nI ecd) aTp (nI ez) (nI ep) (nI em)), (zaI aTp cTp 100 fTp), (zaI eC ceC 100 feC)] sz) U)) (va_Qi (fun (r : Int32) (u : (Nat) × (Nat) × (Nat) × (Nat → Int32)) => match u with | (ecd9, ep9, em9, feC9) => (r = 1 ∧ ∃ L0 : List Nat, pSm ss (pFac ss 3) ep = (some L0, ep9) ∧ ep + 3 ≤ ep9 ∧ ep9 ≤ ez ∧ em9 ≤ 99 ∧ L0.length + ep ≤ ep9 ∧ XT feC9 ecd9 (kt ++ L0) ep9 ∧ ∀ k0, k0 < 100 → okC (feC9 k0)) ∨ (r = 0 ∧ pSm ss (pFac ss 3) ep = (none, ep9) ∧ ep9 ≤ ez + 2 ∧ em9 ≤ 99 ∧ ecd9 ≤ 100 ∧ ∀ k0, k0 < 100 → okC (feC9 k0))) (fun (u : (Nat) × (Nat) × (Nat) × (Nat → Int32)) (t : State) => match u with | (ecd9, ep9, em9, feC9) => va_P (dC, dI) vwCl [(zo7iirrrririii bl esg (nI ecl) eW eA eE eC (nI ecd9) aTp (nI ez) (nI ep9) (nI em9)), (zaI aTp cTp 100 fTp), (zaI eC ceC 100 feC9)] t.heap ∧ va_K (dC, dI) vwCl [(cTp, .int), (ceC, .int)] t ∧ va_D (va_A [(zo7iirrrririii bl esg (nI ecl) eW eA eE eC (nI ecd) aTp (nI ez) (nI ep) (nI em)), (zaI aTp cTp 100 fTp), (zaI eC ceC 100 feC)] sz) [(zo7iirrrririii bl esg (nI ecl) eW eA eE eC (nI ecd9) aTp (nI ez) (nI ep9) (nI em9)), (zaI aTp cTp 100 fTp), (zaI eC ceC 100 feC9)]) (va_A [(zo7iirrrririii bl esg (nI ecl) eW eA eE eC (nI ecd) aTp (nI ez) (nI ep) (nI em)), (zaI aTp cTp 100 fTp), (zaI eC ceC 100 feC)] sz)) 0 0 (va_A [(zo7iirrrririii bl esg (nI ecl) eW eA eE eC (nI ecd) aTp (nI ez) (nI ep) (nI em)), (zaI aTp cTp 100 fTp), (zaI eC ceC 100 feC)] sz) := by
  refine met_ofQ (cc := cX5_readEither) (maxL := 3) (ret := (some .boolean)) (by decide) rfl ?_
  intro p e s m args below meth c s₁ Q B hml hv hQ
  obtain ⟨rfl, hsz, hP, hK, hD0, hE⟩ := hv
  have hx := B.exec
  have hb := B.bytes
  have hr := B.returns
  have hts := atoms_spec (ws := wsX5_readEither) B.pre
  have hown : s.vm.findClass RX5 = some m.cls := findClass_of_methodNamed B.named
  have hlocks := B.notSynchronized
  subst hsz
  have hD := hD0.self (sz := s.heap.size)
  generalize hAe : va_A [(zo7iirrrririii bl esg (nI ecl) eW eA eE eC (nI ecd) aTp (nI ez) (nI ep) (nI em)), (zaI aTp cTp 100 fTp), (zaI eC ceC 100 feC)] s.heap.size = A at hD hQ hE ⊢
  have hA : ∀ q : Nat, s.heap.size ≤ q → A q := fun q h => by rw [← hAe]; exact Or.inr h
  have hS : va_S A s.heap s.heap [] := va_S.rf
  have hl := lv_entry [.ref bl, .int 2] (n := 3) (Nat.le_of_ble_eq_true rfl)
  rw [lg_entry_eq]
  generalize (lg_sl [.ref bl, .int 2] ++ List.replicate (3 - (lg_sl [.ref bl, .int 2]).length) Slot.unset).toArray = ls at hl ⊢
  generalize hag : ([.ref bl, .int 2] : List Value).toArray = args at hts hQ ⊢
  have hl : lv_has ls 3 [(0, .ref bl), (1, .int 2)] := hl
  obtain ⟨H, hH⟩ : ∃ H : Heap, H = s.heap := ⟨_, rfl⟩
  rw [← hH] at hP
  rw [← hH]
  have hS : va_S A s.heap H [] := by rw [hH]; exact hS
  obtain ⟨locs, hlo⟩ : ∃ L : List Loc, L = [] := ⟨_, rfl⟩
  rw [← hlo] at hS
  rw [← hlo]
  clear hH hlo
  refine lv_aload_n hx hb dX5_readEither_0 rfl (lv_at hl 0 rfl) ?_
  refine lv_iload_n hx hb dX5_readEither_1 rfl (lv_at hl 1 rfl) ?_
  have hPc := hP.sub (ws' := [(zo7iirrrririii bl esg (nI ecl) eW eA eE eC (nI ecd) aTp (nI ez) (nI ep) (nI em)), (zaI aTp cTp 100 fTp), (zaI eC ceC 100 feC)]) [0, 1, 2] rfl
  have hDc := hD.sub (ws' := [(zo7iirrrririii bl esg (nI ecl) eW eA eE eC (nI ecd) aTp (nI ez) (nI ep) (nI em)), (zaI aTp cTp 100 fTp), (zaI eC ceC 100 feC)]) [0, 1, 2] (by decide) rfl
  have hKc := hK.sub (tys' := [(cTp, .int), (ceC, .int)]) [0, 1] rfl
  have hFc := va_free (wc := [(zo7iirrrririii bl esg (nI ecl) eW eA eE eC (nI ecd) aTp (nI ez) (nI ep) (nI em)), (zaI aTp cTp 100 fTp), (zaI eC ceC 100 feC)]) hD hS hA [0, 1, 2] rfl
  refine va_calli (va_runV (As := [.int 2]) (rest := []) ⟨hx, hb, hml, hown, hts⟩ (c_xBoth2 l dC dI sK sV bl aTp eW eA eE eC ecl ecd esg cTp ceC fTp feC ez ep em ss kt H.size (hez) (by omega) (by omega) ((hXT).mono (by omega)) (zeC) (gX)) (cwV 1 hts gX5_readEither_X5_readBoth rfl rfl rfl hd_yX5_readBoth ⟨Nat.le_of_ble_eq_true rfl, Nat.le_of_ble_eq_true rfl⟩) ⟨fun a U g mk q => by obtain ⟨q0, q1, qP, qK, qD, qhE⟩ := q; exact ⟨q0, mvz g mk a q1, mvP g mk a qP, mvK g mk a qK, qD, qhE.mv g mk a⟩, va_recv hK hP (ci := 7) (q := (RX5, TX5, 11)) (q0 := 0) rfl rfl, fun U hU hW => ⟨rfl, by rw [hU], by rw [hU]; exact hPc, va_K.moved hW.alike hKc, hDc.weaken (fun _ _ _ _ => trivial), hE.call hS hU hW (fun q h => hFc q h)⟩⟩ rfl rfl hl.1 rfl (lv_room (Nat.le_of_ble_eq_true rfl)) dX5_readEither_2 ⟨Nat.le_of_ble_eq_true rfl, Nat.le_of_ble_eq_true rfl⟩) hS (fun q _ h => hFc q h) hFc (fun r_1 u tC H1 locs htC hvm hw_2 hB hz1 hk1 hS => ?_)
  obtain ⟨ecd9_3, ep9_4, em9_5, feC9_6⟩ := u
  try dsimp only at hw_2 hB
  obtain ⟨hP1, hK1, hD1⟩ := hB
  rw [htC] at hP1
  have hK1 := va_K.moved hvm.symm hK1
  obtain ⟨hP, hD⟩ := va_join (wr := []) (w1 := [(zo7iirrrririii bl esg (nI ecl) eW eA eE eC (nI ecd9_3) aTp (nI ez) (nI ep9_4) (nI em9_5)), (zaI aTp cTp 100 fTp), (zaI eC ceC 100 feC9_6)]) hP hD [0, 1, 2] [] rfl rfl (by decide) (by decide) hk1 hFc hP1 hD1
  have hK := (hK.sub (tys' := []) [] rfl).app hK1
  generalize H1 = H at hP hS ⊢
  have hP : va_P (dC, dI) vwCl [(zo7iirrrririii bl esg (nI ecl) eW eA eE eC (nI ecd9_3) aTp (nI ez) (nI ep9_4) (nI em9_5)), (zaI aTp cTp 100 fTp), (zaI eC ceC 100 feC9_6)] H := hP
  have hD : va_D A [(zo7iirrrririii bl esg (nI ecl) eW eA eE eC (nI ecd9_3) aTp (nI ez) (nI ep9_4) (nI em9_5)), (zaI aTp cTp 100 fTp), (zaI eC ceC 100 feC9_6)] := hD
  have hK : va_K (dC, dI) vwCl [(cTp, .int), (ceC, .int)] s := hK
  rcases hw_2 with ⟨rfl, L_7, eP_8, h_9, h_10, h_11, h_12, hX_14, hC_13⟩ | ⟨rfl, eP_8, h_9, h_10, h_11, hC_13⟩
  · skip
    refine lv_if_ne (tgt := 10) hx hb dX5_readEither_5 (by decide) (fun _ => ?_) (fun c_15 => absurd c_15 (by decide))
    refine lv_iconst (v := 0) hx hb dX5_readEither_10 (by decide) ?_
    refine lv_istore_n (lv' := [(2, .int 0), (0, .ref bl), (1, .int 2)]) hx hb dX5_readEither_11 rfl hl (by decide) rfl (fun ls hl => ?_)
    have L12 : ∀ (nF : Nat) (i : Nat) (ecd2 : Nat) (ep2 : Nat) (em2 : Nat) (feC2 : Nat → Int32) (L1 : List Nat) (m1 : Nat), ez - i < nF → (i ≤ ez) → (pSm ss (pFac ss 3) ep = pSep ss 124 1803 (pEv ss (pFac ss 3)) m1 (some L1, ep2) ∧ 101 ≤ m1 + ep2) → (ep + 3 + 2 * i ≤ ep2 ∧ ep2 ≤ ez ∧ em2 ≤ 99) → (L1.length + ep ≤ ep2) → (XT feC2 ecd2 (kt ++ L1) ep2) → (∀ k0, k0 < 100 → okC (feC2 k0)) → ∀ (H : Heap) (locs : List Loc), va_K (dC, dI) vwCl [(cTp, .int), (ceC, .int)] s → va_P (dC, dI) vwCl [(zo7iirrrririii bl esg (nI ecl) eW eA eE eC (nI ecd2) aTp (nI ez) (nI ep2) (nI em2)), (zaI aTp cTp 100 fTp), (zaI eC ceC 100 feC2)] H → va_D A [(zo7iirrrririii bl esg (nI ecl) eW eA eE eC (nI ecd2) aTp (nI ez) (nI ep2) (nI em2)), (zaI aTp cTp 100 fTp), (zaI eC ceC 100 feC2)] → va_S A s.heap H locs → ∀ (ls : Array Slot), lv_has ls 3 [(0, .ref bl), (1, .int 2), (2, .int (nI i))] → W p l e ({ frames := 16, cells := 0, slots := 0, locals := 355 } : Room) s m args below meth c H locs 0 0 Q (F0 m 12 ls []) := by
      intro nF
      induction nF with
      | zero => intro i ecd2 ep2 em2 feC2 L1 m1 hm; exact absurd hm (Nat.not_lt_zero _)
      | succ nF ih12 =>
        intro i ecd2 ep2 em2 feC2 L1 m1 hm hii hE9 hp2 hL2 hX2 zC2 H locs hK hP hD hS ls hl
        obtain ⟨hE9, hm9⟩ := hE9
        obtain ⟨hp2a, hp2b, hp2c⟩ := hp2
        refine lv_iload_n hx hb dX5_readEither_12 rfl (lv_at hl 2 rfl) ?_
        refine lv_aload_n hx hb dX5_readEither_13 rfl (lv_at hl 0 rfl) ?_
        refine va_get (D := (dC, dI)) (ci := 7) (v := .int (nI ez)) (C := RX5) (T := TX5) (N := 11) hx hb hts kc_xEither2_0 hown hK hP 0 rfl rfl 8 (by decide) (hts (.fieldLink RX5 31 "MistHeaps$Hill" "size" "I") kc_xEither2_1) (fun _ h9 => h9) rfl dX5_readEither_14 ?_
        refine lv_icmp_ge (tgt := 51) hx hb dX5_readEither_17 (by decide) (fun c_16 => ?_) (fun c_16 => ?_)
        · skip
          have c_16 : ez ≤ i := (nI_leI (a := ez) (b := i) (by omega) (by omega)).mp c_16
          refine lv_iconst (v := 1) hx hb dX5_readEither_51 (by decide) ?_
          rw [hQ]
          have hP9 := hP.sub (ws' := [(zo7iirrrririii bl esg (nI ecl) eW eA eE eC (nI ecd2) aTp (nI ez) (nI ep2) (nI em2)), (zaI aTp cTp 100 fTp), (zaI eC ceC 100 feC2)]) [0, 1, 2] rfl
          have hD9 := hD.sub (ws' := [(zo7iirrrririii bl esg (nI ecl) eW eA eE eC (nI ecd2) aTp (nI ez) (nI ep2) (nI em2)), (zaI aTp cTp 100 fTp), (zaI eC ceC 100 feC2)]) [0, 1, 2] (by decide) rfl
          have hK9 := hK.sub (tys' := [(cTp, .int), (ceC, .int)]) [0, 1] rfl
          exact W.zret (v := 1) hx hb hr rfl (fun tQ htQ hWQ => ⟨⟨1, (ecd2, ep2, em2, feC2), rfl, Or.inl ⟨rfl, L1, hE9.trans (ps_end (fun z => by have := gX.2.1 ep2 (by omega); omega)), by omega, by omega, by omega, by (try simp only [List.length_append, List.length_cons, List.length_nil]); omega, hX2, zC2⟩, by rw [htQ]; exact hP9, va_K.moved hWQ.alike hK9, hD9⟩, hS.F htQ⟩) hS.2.2 dX5_readEither_52
        · skip
          have c_16 : ¬ ez ≤ i := fun q => c_16 ((nI_leI (a := ez) (b := i) (by omega) (by omega)).mpr q)
          refine lv_aload_n hx hb dX5_readEither_20 rfl (lv_at hl 0 rfl) ?_
          refine lv_bipush (v := 124) hx hb dX5_readEither_21 (by decide) ?_
          have hPc := hP.sub (ws' := [(zo7iirrrririii bl esg (nI ecl) eW eA eE eC (nI ecd2) aTp (nI ez) (nI ep2) (nI em2)), (zaI aTp cTp 100 fTp)]) [0, 1] rfl
          have hDc := hD.sub (ws' := [(zo7iirrrririii bl esg (nI ecl) eW eA eE eC (nI ecd2) aTp (nI ez) (nI ep2) (nI em2)), (zaI aTp cTp 100 fTp)]) [0, 1] (by decide) rfl
          have hKc := hK.sub (tys' := [(cTp, .int)]) [0] rfl
          have hFc := va_free (wc := [(zo7iirrrririii bl esg (nI ecl) eW eA eE eC (nI ecd2) aTp (nI ez) (nI ep2) (nI em2)), (zaI aTp cTp 100 fTp)]) hD hS hA [0, 1] rfl
          refine va_calli (va_runV (As := [.int 124]) (rest := []) ⟨hx, hb, hml, hown, hts⟩ (c_xReadSign l dC dI bl aTp eW eA eE eC 124 ecl ecd2 esg cTp fTp ez ep2 em2 ss H.size (hez) (by omega) (by decide) (by decide) (gX)) (cwV 1 hts gX5_readEither_X5_readSign rfl rfl rfl hd_yX5_readSign ⟨Nat.le_of_ble_eq_true rfl, Nat.le_of_ble_eq_true rfl⟩) ⟨fun a U g mk q => by obtain ⟨q0, q1, qP, qK, qD⟩ := q; exact ⟨q0, mvz g mk a q1, mvP g mk a qP, mvK g mk a qK, qD⟩, va_recv hK hP (ci := 7) (q := (RX5, TX5, 11)) (q0 := 0) rfl rfl, fun U hU hW => ⟨rfl, by rw [hU], by rw [hU]; exact hPc, va_K.moved hW.alike hKc, hDc.weaken (fun _ _ _ _ => trivial)⟩⟩ rfl rfl hl.1 rfl (lv_room (Nat.le_of_ble_eq_true rfl)) dX5_readEither_23 ⟨Nat.le_of_ble_eq_true rfl, Nat.le_of_ble_eq_true rfl⟩) hS (fun q _ h => hFc q h) hFc (fun r_17 u tC H1 locs htC hvm hw_18 hB hz1 hk1 hS => ?_)
          obtain ⟨ep9_19, rfl⟩ : ∃ z, z = u := ⟨_, rfl⟩
          try dsimp only at hw_18 hB
          obtain ⟨hP1, hK1, hD1⟩ := hB
          rw [htC] at hP1
          have hK1 := va_K.moved hvm.symm hK1
          obtain ⟨hP, hD⟩ := va_join (wr := [(zaI eC ceC 100 feC2)]) (w1 := [(zo7iirrrririii bl esg (nI ecl) eW eA eE eC (nI ecd2) aTp (nI ez) (nI ep9_19) (nI em2)), (zaI aTp cTp 100 fTp)]) hP hD [0, 1] [2] rfl rfl (by decide) (by decide) hk1 hFc hP1 hD1
          have hK := (hK.sub (tys' := [(ceC, .int)]) [1] rfl).app hK1
          generalize H1 = H at hP hS ⊢
          have hP : va_P (dC, dI) vwCl [(zaI eC ceC 100 feC2), (zo7iirrrririii bl esg (nI ecl) eW eA eE eC (nI ecd2) aTp (nI ez) (nI ep9_19) (nI em2)), (zaI aTp cTp 100 fTp)] H := hP
          have hD : va_D A [(zaI eC ceC 100 feC2), (zo7iirrrririii bl esg (nI ecl) eW eA eE eC (nI ecd2) aTp (nI ez) (nI ep9_19) (nI em2)), (zaI aTp cTp 100 fTp)] := hD
          have hK : va_K (dC, dI) vwCl [(ceC, .int), (cTp, .int)] s := hK
          rcases hw_18 with ⟨rfl, hy9, h_20, e_21⟩ | ⟨rfl, hn9, e_21⟩
          · skip
            obtain rfl := (e_21).symm
            obtain ⟨m2, rfl⟩ : ∃ q : Nat, m1 = q + 1 := ⟨m1 - 1, by omega⟩
            refine lv_if_eq (tgt := 51) hx hb dX5_readEither_26 (by decide) (fun c_22 => absurd c_22 (by decide)) (fun _ => ?_)
            refine lv_aload_n hx hb dX5_readEither_29 rfl (lv_at hl 0 rfl) ?_
            refine lv_iload_n hx hb dX5_readEither_30 rfl (lv_at hl 1 rfl) ?_
            have hPc := hP.sub (ws' := [(zo7iirrrririii bl esg (nI ecl) eW eA eE eC (nI ecd2) aTp (nI ez) (nI (ep2 + 1)) (nI em2)), (zaI aTp cTp 100 fTp), (zaI eC ceC 100 feC2)]) [1, 2, 0] rfl
            have hDc := hD.sub (ws' := [(zo7iirrrririii bl esg (nI ecl) eW eA eE eC (nI ecd2) aTp (nI ez) (nI (ep2 + 1)) (nI em2)), (zaI aTp cTp 100 fTp), (zaI eC ceC 100 feC2)]) [1, 2, 0] (by decide) rfl
            have hKc := hK.sub (tys' := [(cTp, .int), (ceC, .int)]) [1, 0] rfl
            have hFc := va_free (wc := [(zo7iirrrririii bl esg (nI ecl) eW eA eE eC (nI ecd2) aTp (nI ez) (nI (ep2 + 1)) (nI em2)), (zaI aTp cTp 100 fTp), (zaI eC ceC 100 feC2)]) hD hS hA [1, 2, 0] rfl
            refine va_calli (va_runV (As := [.int 2]) (rest := []) ⟨hx, hb, hml, hown, hts⟩ (c_xBoth2 l dC dI sK sV bl aTp eW eA eE eC ecl ecd2 esg cTp ceC fTp feC2 ez (ep2 + 1) em2 ss (kt ++ L1) H.size (hez) (by omega) (by omega) ((hX2).mono (by omega)) (zC2) (gX)) (cwV 1 hts gX5_readEither_X5_readBoth rfl rfl rfl hd_yX5_readBoth ⟨Nat.le_of_ble_eq_true rfl, Nat.le_of_ble_eq_true rfl⟩) ⟨fun a U g mk q => by obtain ⟨q0, q1, qP, qK, qD, qhE⟩ := q; exact ⟨q0, mvz g mk a q1, mvP g mk a qP, mvK g mk a qK, qD, qhE.mv g mk a⟩, va_recv hK hP (ci := 7) (q := (RX5, TX5, 11)) (q0 := 1) rfl rfl, fun U hU hW => ⟨rfl, by rw [hU], by rw [hU]; exact hPc, va_K.moved hW.alike hKc, hDc.weaken (fun _ _ _ _ => trivial), hE.call hS hU hW (fun q h => hFc q h)⟩⟩ rfl rfl hl.1 rfl (lv_room (Nat.le_of_ble_eq_true rfl)) dX5_readEither_31 ⟨Nat.le_of_ble_eq_true rfl, Nat.le_of_ble_eq_true rfl⟩) hS (fun q _ h => hFc q h) hFc (fun r_23 u tC H1 locs htC hvm hw_24 hB hz1 hk1 hS => ?_)
            obtain ⟨ecd9_25, ep9_26, em9_27, feC9_28⟩ := u
            try dsimp only at hw_24 hB
            obtain ⟨hP1, hK1, hD1⟩ := hB
            rw [htC] at hP1
            have hK1 := va_K.moved hvm.symm hK1
            obtain ⟨hP, hD⟩ := va_join (wr := []) (w1 := [(zo7iirrrririii bl esg (nI ecl) eW eA eE eC (nI ecd9_25) aTp (nI ez) (nI ep9_26) (nI em9_27)), (zaI aTp cTp 100 fTp), (zaI eC ceC 100 feC9_28)]) hP hD [1, 2, 0] [] rfl rfl (by decide) (by decide) hk1 hFc hP1 hD1
            have hK := (hK.sub (tys' := []) [] rfl).app hK1
            generalize H1 = H at hP hS ⊢
            have hP : va_P (dC, dI) vwCl [(zo7iirrrririii bl esg (nI ecl) eW eA eE eC (nI ecd9_25) aTp (nI ez) (nI ep9_26) (nI em9_27)), (zaI aTp cTp 100 fTp), (zaI eC ceC 100 feC9_28)] H := hP
            have hD : va_D A [(zo7iirrrririii bl esg (nI ecl) eW eA eE eC (nI ecd9_25) aTp (nI ez) (nI ep9_26) (nI em9_27)), (zaI aTp cTp 100 fTp), (zaI eC ceC 100 feC9_28)] := hD
            have hK : va_K (dC, dI) vwCl [(cTp, .int), (ceC, .int)] s := hK
            rcases hw_24 with ⟨rfl, L_29, eP_30, h_31, h_32, h_33, h_34, hX_36, hC_35⟩ | ⟨rfl, eP_30, h_31, h_32, h_33, hC_35⟩
            · skip
              refine lv_if_ne (tgt := 39) hx hb dX5_readEither_34 (by decide) (fun _ => ?_) (fun c_37 => absurd c_37 (by decide))
              refine lv_aload_n hx hb dX5_readEither_39 rfl (lv_at hl 0 rfl) ?_
              refine lv_bipush (v := (-3)) hx hb dX5_readEither_40 (by decide) ?_
              have hPc := hP.sub (ws' := [(zo7iirrrririii bl esg (nI ecl) eW eA eE eC (nI ecd9_25) aTp (nI ez) (nI ep9_26) (nI em9_27)), (zaI eC ceC 100 feC9_28)]) [0, 2] rfl
              have hDc := hD.sub (ws' := [(zo7iirrrririii bl esg (nI ecl) eW eA eE eC (nI ecd9_25) aTp (nI ez) (nI ep9_26) (nI em9_27)), (zaI eC ceC 100 feC9_28)]) [0, 2] (by decide) rfl
              have hKc := hK.sub (tys' := [(ceC, .int)]) [1] rfl
              have hFc := va_free (wc := [(zo7iirrrririii bl esg (nI ecl) eW eA eE eC (nI ecd9_25) aTp (nI ez) (nI ep9_26) (nI em9_27)), (zaI eC ceC 100 feC9_28)]) hD hS hA [0, 2] rfl
              refine va_callv (va_runV (As := [.int (-3)]) (rest := []) ⟨hx, hb, hml, hown, hts⟩ (c_xCode l dC dI bl aTp eW eA eE eC ecl ecd9_25 (-3) esg ceC feC9_28 ez ep9_26 em9_27 ((kt ++ L1) ++ L_29) 1803 H.size ((hX_36).mono (by omega)) (by have h6 := (hX_36).1; have h7 := (hX_36).2.1; have h8 := hXT.1; have h9 := hXT.2.1; (try simp only [List.length_append] at h6); omega) (hC_35) (Or.inr (Or.inr (Or.inl rfl))) (by decide)) (cwV 1 hts gX5_readEither_X5_code rfl rfl rfl hd_yX5_code ⟨Nat.le_of_ble_eq_true rfl, Nat.le_of_ble_eq_true rfl⟩) ⟨fun a U g mk q => by obtain ⟨q0, q1, qP, qK, qD⟩ := q; exact ⟨q0, mvz g mk a q1, mvP g mk a qP, mvK g mk a qK, qD⟩, va_recv hK hP (ci := 7) (q := (RX5, TX5, 11)) (q0 := 0) rfl rfl, fun U hU hW => ⟨rfl, by rw [hU], by rw [hU]; exact hPc, va_K.moved hW.alike hKc, hDc.weaken (fun _ _ _ _ => trivial)⟩⟩ rfl rfl hl.1 rfl (lv_room (Nat.le_of_ble_eq_true rfl)) dX5_readEither_42 ⟨Nat.le_of_ble_eq_true rfl, Nat.le_of_ble_eq_true rfl⟩) hS (fun q _ h => hFc q h) hFc (fun u tC H1 locs htC hvm hw_39 hB hz1 hk1 hS => ?_)
              obtain ⟨ecd9_40, feC9_41⟩ := u
              try dsimp only at hw_39 hB
              obtain ⟨hP1, hK1, hD1⟩ := hB
              rw [htC] at hP1
              have hK1 := va_K.moved hvm.symm hK1
              obtain ⟨hP, hD⟩ := va_join (wr := [(zaI aTp cTp 100 fTp)]) (w1 := [(zo7iirrrririii bl esg (nI ecl) eW eA eE eC (nI ecd9_40) aTp (nI ez) (nI ep9_26) (nI em9_27)), (zaI eC ceC 100 feC9_41)]) hP hD [0, 2] [1] rfl rfl (by decide) (by decide) hk1 hFc hP1 hD1
              have hK := (hK.sub (tys' := [(cTp, .int)]) [0] rfl).app hK1
              generalize H1 = H at hP hS ⊢
              have hP : va_P (dC, dI) vwCl [(zaI aTp cTp 100 fTp), (zo7iirrrririii bl esg (nI ecl) eW eA eE eC (nI ecd9_40) aTp (nI ez) (nI ep9_26) (nI em9_27)), (zaI eC ceC 100 feC9_41)] H := hP
              have hD : va_D A [(zaI aTp cTp 100 fTp), (zo7iirrrririii bl esg (nI ecl) eW eA eE eC (nI ecd9_40) aTp (nI ez) (nI ep9_26) (nI em9_27)), (zaI eC ceC 100 feC9_41)] := hD
              have hK : va_K (dC, dI) vwCl [(cTp, .int), (ceC, .int)] s := hK
              obtain ⟨e_42, hC_43, h_44⟩ := hw_39
              obtain rfl := (e_42).symm
              have hX_45 : XT feC9_41 (ecd9_25 + 1) (((kt ++ L1) ++ L_29) ++ [1803]) (ep9_26) := ⟨by rw [List.length_append, (hX_36).1]; rfl, by have h6 := (hX_36).1; have h7 := (hX_36).2.1; have h8 := hXT.1; have h9 := hXT.2.1; (try simp only [List.length_append] at h6); omega, h_44⟩
              refine lv_iinc (v := nI (i + 1)) (lv' := [(2, .int (nI (i + 1))), (0, .ref bl), (1, .int 2)]) hx hb dX5_readEither_45 hl (k := 2) rfl (nI_add i 1) (by decide) rfl (fun ls hl => ?_)
              refine lv_goto (tgt := 12) hx hb dX5_readEither_48 (by decide) ?_
              exact ih12 (i + 1) _ _ _ _ (L1 ++ (L_29 ++ [1803])) (m2) (by omega) (by omega) (⟨hE9.trans (ps_go hy9 eP_30), by omega⟩) (by omega) (by simp only [List.length_append, List.length_cons, List.length_nil]; omega) (XT.as (XT.as (hX_45))) (hC_43) _ _ (hK.sub [0, 1] rfl) (hP.sub [1, 0, 2] rfl) (hD.sub [1, 0, 2] (by decide) rfl) hS ls (lv_sub hl [1, 2, 0] rfl)
            · skip
              refine lv_if_ne (tgt := 39) hx hb dX5_readEither_34 (by decide) (fun c_46 => absurd c_46 (by decide)) (fun _ => ?_)
              refine lv_iconst (v := 0) hx hb dX5_readEither_37 (by decide) ?_
              rw [hQ]
              have hP9 := hP.sub (ws' := [(zo7iirrrririii bl esg (nI ecl) eW eA eE eC (nI ecd9_25) aTp (nI ez) (nI ep9_26) (nI em9_27)), (zaI aTp cTp 100 fTp), (zaI eC ceC 100 feC9_28)]) [0, 1, 2] rfl
              have hD9 := hD.sub (ws' := [(zo7iirrrririii bl esg (nI ecl) eW eA eE eC (nI ecd9_25) aTp (nI ez) (nI ep9_26) (nI em9_27)), (zaI aTp cTp 100 fTp), (zaI eC ceC 100 feC9_28)]) [0, 1, 2] (by decide) rfl
              have hK9 := hK.sub (tys' := [(cTp, .int), (ceC, .int)]) [0, 1] rfl
              exact W.zret (v := 0) hx hb hr rfl (fun tQ htQ hWQ => ⟨⟨0, (ecd9_25, ep9_26, em9_27, feC9_28), rfl, Or.inr ⟨rfl, hE9.trans (ps_bad hy9 eP_30), by omega, by omega, by first | omega | (have := (hXT).2.1; omega), hC_35⟩, by rw [htQ]; exact hP9, va_K.moved hWQ.alike hK9, hD9⟩, hS.F htQ⟩) hS.2.2 dX5_readEither_38
          · skip
            obtain rfl := (e_21).symm
            refine lv_if_eq (tgt := 51) hx hb dX5_readEither_26 (by decide) (fun _ => ?_) (fun c_47 => absurd c_47 (by decide))
            refine lv_iconst (v := 1) hx hb dX5_readEither_51 (by decide) ?_
            rw [hQ]
            have hP9 := hP.sub (ws' := [(zo7iirrrririii bl esg (nI ecl) eW eA eE eC (nI ecd2) aTp (nI ez) (nI ep2) (nI em2)), (zaI aTp cTp 100 fTp), (zaI eC ceC 100 feC2)]) [1, 2, 0] rfl
            have hD9 := hD.sub (ws' := [(zo7iirrrririii bl esg (nI ecl) eW eA eE eC (nI ecd2) aTp (nI ez) (nI ep2) (nI em2)), (zaI aTp cTp 100 fTp), (zaI eC ceC 100 feC2)]) [1, 2, 0] (by decide) rfl
            have hK9 := hK.sub (tys' := [(cTp, .int), (ceC, .int)]) [1, 0] rfl
            exact W.zret (v := 1) hx hb hr rfl (fun tQ htQ hWQ => ⟨⟨1, (ecd2, ep2, em2, feC2), rfl, Or.inl ⟨rfl, L1, hE9.trans (ps_end hn9), by omega, by omega, by omega, by (try simp only [List.length_append, List.length_cons, List.length_nil]); omega, hX2, zC2⟩, by rw [htQ]; exact hP9, va_K.moved hWQ.alike hK9, hD9⟩, hS.F htQ⟩) hS.2.2 dX5_readEither_52
    exact L12 _ (0) _ _ _ _ (L_7) (101) (Nat.lt_succ_self _) (by omega) (⟨pSm_s eP_8, by omega⟩) (by omega) (by omega) (hX_14) (hC_13) _ _ (hK.sub [0, 1] rfl) (hP.sub [0, 1, 2] rfl) (hD.sub [0, 1, 2] (by decide) rfl) hS ls (lv_sub hl [1, 2, 0] rfl)
  · skip
    refine lv_if_ne (tgt := 10) hx hb dX5_readEither_5 (by decide) (fun c_48 => absurd c_48 (by decide)) (fun _ => ?_)
    refine lv_iconst (v := 0) hx hb dX5_readEither_8 (by decide) ?_
    rw [hQ]
    have hP9 := hP.sub (ws' := [(zo7iirrrririii bl esg (nI ecl) eW eA eE eC (nI ecd9_3) aTp (nI ez) (nI ep9_4) (nI em9_5)), (zaI aTp cTp 100 fTp), (zaI eC ceC 100 feC9_6)]) [0, 1, 2] rfl
    have hD9 := hD.sub (ws' := [(zo7iirrrririii bl esg (nI ecl) eW eA eE eC (nI ecd9_3) aTp (nI ez) (nI ep9_4) (nI em9_5)), (zaI aTp cTp 100 fTp), (zaI eC ceC 100 feC9_6)]) [0, 1, 2] (by decide) rfl
    have hK9 := hK.sub (tys' := [(cTp, .int), (ceC, .int)]) [0, 1] rfl
    exact W.zret (v := 0) hx hb hr rfl (fun tQ htQ hWQ => ⟨⟨0, (ecd9_3, ep9_4, em9_5, feC9_6), rfl, Or.inr ⟨rfl, pSm_n eP_8, by omega, by omega, by first | omega | (have := (hXT).2.1; omega), hC_13⟩, by rw [htQ]; exact hP9, va_K.moved hWQ.alike hK9, hD9⟩, hS.F htQ⟩) hS.2.2 dX5_readEither_9
end mg15f
section mg15f

theorem kc_xPlain1_0 : ∀ w ∈ wsX50, w ∈ wsX5_readPlain := fun w h => List.mem_cons_of_mem _ (gin_wsX50 w h)
theorem kc_xPlain1_1 : (.fieldLink RX5 34 "MistHeaps$Hill" "at" "I" : Cond) ∈ wsX5_readPlain := kc_of 124 rfl rfl rfl
set_option maxHeartbeats 4000000 in
set_option maxRecDepth 100000 in
theorem c_xPlain1 (l : Launch) (dC : Nat → ClassId) (dI : Nat → Nat → Nat) (sK sV : Nat → Nat) (bl : Nat) (aTp : Nat) (eW : Nat) (eA : Nat) (eE : Nat) (eC : Nat) (ecl : Nat) (ecd : Nat) (esg : Int32) (cTp : ClassId) (ceC : ClassId) (fTp : Nat → Int32) (feC : Nat → Int32) (ez : Nat) (ep : Nat) (em : Nat) (ss : Nat → Nat) (kt : List Nat) (sz : Nat) (hez : ez ≤ 100) (hep : ep ≤ ez) (hem : em ≤ 99) (hXT : XT feC ecd kt ep) (zeC : ∀ k0, k0 < 100 → okC (feC k0)) (gX : TX fTp ez ss) : Met l yX5_readPlain wsX5_readPlain ({ frames := 17, cells := 0, slots := 0, locals := 377 } : Room) (va_Pc [.ref bl, .int 1] (fun U => U.heap.size = sz ∧ va_P (dC, dI) vwCl [(zo7iirrrririii bl esg (nI ecl) eW eA eE eC (nI ecd) aTp (nI ez) (nI ep) (nI em)), (zaI aTp cTp 100 fTp), (zaI eC ceC 100 feC)] U.heap ∧ va_K (dC, dI) vwCl [(cTp, .int), (ceC, .int)] U ∧ va_D (fun _ => True) [(zo7iirrrririii bl esg (nI ecl) eW eA eE eC (nI ecd) aTp (nI ez) (nI ep) (nI em)), (zaI aTp cTp 100 fTp), (zaI eC ceC 100 feC)] ∧ Gs sK sV (va_A [(zo7iirrrririii bl esg (nI ecl) eW eA eE eC (nI ecd) aTp (nI ez) (nI ep) (nI em)), (zaI aTp cTp 100 fTp), (zaI eC ceC 100 feC)] sz) U)) (va_Qi (fun (r : Int32) (u : (Nat) × (Nat) × (Nat) × (Nat → Int32)) => match u with | (ecd9, ep9, em9, feC9) => (r = 1 ∧ ∃ L0 : List Nat, pFac ss 4 ep = (some L0, ep9) ∧ ep + 3 ≤ ep9 ∧ ep9 ≤ ez ∧ em9 ≤ 99 ∧ L0.length + ep ≤ ep9 ∧ XT feC9 ecd9 (kt ++ L0) ep9 ∧ ∀ k0, k0 < 100 → okC (feC9 k0)) ∨ (r = 0 ∧ pFac ss 4 ep = (none, ep9) ∧ ep9 ≤ ez + 2 ∧ em9 ≤ 99 ∧ ecd9 ≤ 100 ∧ ∀ k0, k0 < 100 → okC (feC9 k0))) (fun (u : (Nat) × (Nat) × (Nat) × (Nat → Int32)) (t : State) => match u with | (ecd9, ep9, em9, feC9) => va_P (dC, dI) vwCl [(zo7iirrrririii bl esg (nI ecl) eW eA eE eC (nI ecd9) aTp (nI ez) (nI ep9) (nI em9)), (zaI aTp cTp 100 fTp), (zaI eC ceC 100 feC9)] t.heap ∧ va_K (dC, dI) vwCl [(cTp, .int), (ceC, .int)] t ∧ va_D (va_A [(zo7iirrrririii bl esg (nI ecl) eW eA eE eC (nI ecd) aTp (nI ez) (nI ep) (nI em)), (zaI aTp cTp 100 fTp), (zaI eC ceC 100 feC)] sz) [(zo7iirrrririii bl esg (nI ecl) eW eA eE eC (nI ecd9) aTp (nI ez) (nI ep9) (nI em9)), (zaI aTp cTp 100 fTp), (zaI eC ceC 100 feC9)]) (va_A [(zo7iirrrririii bl esg (nI ecl) eW eA eE eC (nI ecd) aTp (nI ez) (nI ep) (nI em)), (zaI aTp cTp 100 fTp), (zaI eC ceC 100 feC)] sz)) 0 0 (va_A [(zo7iirrrririii bl esg (nI ecl) eW eA eE eC (nI ecd) aTp (nI ez) (nI ep) (nI em)), (zaI aTp cTp 100 fTp), (zaI eC ceC 100 feC)] sz) := by
  refine met_ofQ (cc := cX5_readPlain) (maxL := 3) (ret := (some .boolean)) (by decide) rfl ?_
  intro p e s m args below meth c s₁ Q B hml hv hQ
  obtain ⟨rfl, hsz, hP, hK, hD0, hE⟩ := hv
  have hx := B.exec
  have hb := B.bytes
  have hr := B.returns
  have hts := atoms_spec (ws := wsX5_readPlain) B.pre
  have hown : s.vm.findClass RX5 = some m.cls := findClass_of_methodNamed B.named
  have hlocks := B.notSynchronized
  subst hsz
  have hD := hD0.self (sz := s.heap.size)
  generalize hAe : va_A [(zo7iirrrririii bl esg (nI ecl) eW eA eE eC (nI ecd) aTp (nI ez) (nI ep) (nI em)), (zaI aTp cTp 100 fTp), (zaI eC ceC 100 feC)] s.heap.size = A at hD hQ hE ⊢
  have hA : ∀ q : Nat, s.heap.size ≤ q → A q := fun q h => by rw [← hAe]; exact Or.inr h
  have hS : va_S A s.heap s.heap [] := va_S.rf
  have hl := lv_entry [.ref bl, .int 1] (n := 3) (Nat.le_of_ble_eq_true rfl)
  rw [lg_entry_eq]
  generalize (lg_sl [.ref bl, .int 1] ++ List.replicate (3 - (lg_sl [.ref bl, .int 1]).length) Slot.unset).toArray = ls at hl ⊢
  generalize hag : ([.ref bl, .int 1] : List Value).toArray = args at hts hQ ⊢
  have hl : lv_has ls 3 [(0, .ref bl), (1, .int 1)] := hl
  obtain ⟨H, hH⟩ : ∃ H : Heap, H = s.heap := ⟨_, rfl⟩
  rw [← hH] at hP
  rw [← hH]
  have hS : va_S A s.heap H [] := by rw [hH]; exact hS
  obtain ⟨locs, hlo⟩ : ∃ L : List Loc, L = [] := ⟨_, rfl⟩
  rw [← hlo] at hS
  rw [← hlo]
  clear hH hlo
  refine lv_aload_n hx hb dX5_readPlain_0 rfl (lv_at hl 0 rfl) ?_
  have hPc := hP.sub (ws' := [(zo7iirrrririii bl esg (nI ecl) eW eA eE eC (nI ecd) aTp (nI ez) (nI ep) (nI em)), (zaI aTp cTp 100 fTp)]) [0, 1] rfl
  have hKc := hK.sub (tys' := [(cTp, .int)]) [0] rfl
  refine vp_callSi (va_runV (As := []) (rest := []) ⟨hx, hb, hml, hown, hts⟩ (c_xSign l dC dI bl aTp eW eA eE eC ecl ecd esg cTp fTp ez ep em ss (hez) (by omega) (gX)) (cwV 0 hts gX5_readPlain_X5_sign rfl rfl rfl hd_yX5_sign ⟨Nat.le_of_ble_eq_true rfl, Nat.le_of_ble_eq_true rfl⟩) ⟨fun a U g mk q => by obtain ⟨q0, qP, qK⟩ := q; exact ⟨q0, mvP g mk a qP, mvK g mk a qK⟩, va_recv hK hP (ci := 7) (q := (RX5, TX5, 11)) (q0 := 0) rfl rfl, fun U hU hW => ⟨rfl, by rw [hU]; exact hPc, va_K.moved hW.alike hKc⟩⟩ rfl rfl hl.1 rfl (lv_room (Nat.le_of_ble_eq_true rfl)) dX5_readPlain_1 ⟨Nat.le_of_ble_eq_true rfl, Nat.le_of_ble_eq_true rfl⟩).run (fun r_1 hw_2 => ?_)
  obtain rfl := hw_2
  have hs8 := gX.2.2 (ep)
  refine lv_istore_n (lv' := [(2, .int (nI (ss ep))), (0, .ref bl), (1, .int 1)]) hx hb dX5_readPlain_4 rfl hl (by decide) rfl (fun ls hl => ?_)
  refine lv_iload_n hx hb dX5_readPlain_5 rfl (lv_at hl 0 rfl) ?_
  refine lv_bipush (v := 33) hx hb dX5_readPlain_6 (by decide) ?_
  refine lv_icmp_eq (tgt := 22) hx hb dX5_readPlain_8 (by decide) (fun c_3 => ?_) (fun c_3 => ?_)
  · skip
    have c_3 : (ss ep) = 33 := (nI_eq (a := (ss ep)) (b := 33) (by omega) (by omega)).mp c_3
    have hc : ss ep = 33 := c_3
    have hlt : ep < ez := Nat.lt_of_not_le (fun z => by have := gX.2.1 ep z; omega)
    refine lv_iload_n hx hb dX5_readPlain_22 rfl (lv_at hl 2 rfl) ?_
    refine lv_iconst (v := 5) hx hb dX5_readPlain_23 (by decide) ?_
    refine lv_icmp_lt (tgt := 29) hx hb dX5_readPlain_24 (by decide) (fun _ => ?_) (fun c_4 => absurd c_4 (by decide))
    refine lv_aload_n hx hb dX5_readPlain_29 rfl (lv_at hl 1 rfl) ?_
    refine lv_dup hx hb dX5_readPlain_30 rfl ?_
    refine va_get (D := (dC, dI)) (ci := 7) (v := .int (nI ep)) (C := RX5) (T := TX5) (N := 11) hx hb hts kc_xPlain1_0 hown hK hP 0 rfl rfl 9 (by decide) (hts (.fieldLink RX5 34 "MistHeaps$Hill" "at" "I") kc_xPlain1_1) (fun _ h9 => h9) rfl dX5_readPlain_31 ?_
    refine lv_iconst (v := 1) hx hb dX5_readPlain_34 (by decide) ?_
    refine lv_iadd hx hb dX5_readPlain_35 ?_
    refine qi_as (y := nI (ep + 1)) (nI_add ep 1) ?_
    refine va_put (D := (dC, dI)) (ci := 7) (v := .int (nI (ep + 1))) (ty := .int) (C := RX5) (T := TX5) (N := 11) hx hb hts kc_xPlain1_0 tyX5 tyX5_ok nmX5 hown hK hP hD hS 0 rfl rfl 9 (by decide) (hts (.fieldLink RX5 34 "MistHeaps$Hill" "at" "I") kc_xPlain1_1) (fun _ h9 => h9) rfl (by decide +kernel) rfl rfl (Nat.le_of_ble_eq_true rfl) dX5_readPlain_36 (fun H locs hP hD hS => ?_)
    have hP : va_P (dC, dI) vwCl [(zo7iirrrririii bl esg (nI ecl) eW eA eE eC (nI ecd) aTp (nI ez) (nI (ep + 1)) (nI em)), (zaI aTp cTp 100 fTp), (zaI eC ceC 100 feC)] H := hP
    have hD : va_D A [(zo7iirrrririii bl esg (nI ecl) eW eA eE eC (nI ecd) aTp (nI ez) (nI (ep + 1)) (nI em)), (zaI aTp cTp 100 fTp), (zaI eC ceC 100 feC)] := hD
    refine lv_iload_n hx hb dX5_readPlain_39 rfl (lv_at hl 0 rfl) ?_
    refine lv_bipush (v := 40) hx hb dX5_readPlain_40 (by decide) ?_
    refine lv_icmp_ne (tgt := 70) hx hb dX5_readPlain_42 (by decide) (fun c_5 => ?_) (fun c_5 => absurd c_5 (fun z9 => absurd ((nI_eq (a := ss ep) (b := 40) (by omega) (by omega)).mp z9) (by omega)))
    have c_5 : ¬ (ss ep) = 40 := fun q => c_5 ((nI_eq (a := (ss ep)) (b := 40) (by omega) (by omega)).mpr q)
    refine lv_aload_n hx hb dX5_readPlain_70 rfl (lv_at hl 1 rfl) ?_
    refine lv_iload_n hx hb dX5_readPlain_71 rfl (lv_at hl 2 rfl) ?_
    refine lv_iconst (v := 1) hx hb dX5_readPlain_72 (by decide) ?_
    refine lv_iadd hx hb dX5_readPlain_73 ?_
    refine qi_as (y := 2) (by decide) ?_
    have hPc := hP.sub (ws' := [(zo7iirrrririii bl esg (nI ecl) eW eA eE eC (nI ecd) aTp (nI ez) (nI (ep + 1)) (nI em)), (zaI aTp cTp 100 fTp), (zaI eC ceC 100 feC)]) [0, 1, 2] rfl
    have hDc := hD.sub (ws' := [(zo7iirrrririii bl esg (nI ecl) eW eA eE eC (nI ecd) aTp (nI ez) (nI (ep + 1)) (nI em)), (zaI aTp cTp 100 fTp), (zaI eC ceC 100 feC)]) [0, 1, 2] (by decide) rfl
    have hKc := hK.sub (tys' := [(cTp, .int), (ceC, .int)]) [0, 1] rfl
    have hFc := va_free (wc := [(zo7iirrrririii bl esg (nI ecl) eW eA eE eC (nI ecd) aTp (nI ez) (nI (ep + 1)) (nI em)), (zaI aTp cTp 100 fTp), (zaI eC ceC 100 feC)]) hD hS hA [0, 1, 2] rfl
    refine va_calli (va_runV (As := [.int 2]) (rest := []) ⟨hx, hb, hml, hown, hts⟩ (c_xPlain2 l dC dI sK sV bl aTp eW eA eE eC ecl ecd esg cTp ceC fTp feC ez (ep + 1) em ss kt H.size (hez) (by omega) (by omega) ((hXT).mono (by omega)) (zeC) (gX)) (cwV 1 hts gX5_readPlain_X5_readPlain rfl rfl rfl hd_yX5_readPlain ⟨Nat.le_of_ble_eq_true rfl, Nat.le_of_ble_eq_true rfl⟩) ⟨fun a U g mk q => by obtain ⟨q0, q1, qP, qK, qD, qhE⟩ := q; exact ⟨q0, mvz g mk a q1, mvP g mk a qP, mvK g mk a qK, qD, qhE.mv g mk a⟩, va_recv hK hP (ci := 7) (q := (RX5, TX5, 11)) (q0 := 0) rfl rfl, fun U hU hW => ⟨rfl, by rw [hU], by rw [hU]; exact hPc, va_K.moved hW.alike hKc, hDc.weaken (fun _ _ _ _ => trivial), hE.call hS hU hW (fun q h => hFc q h)⟩⟩ rfl rfl hl.1 rfl (lv_room (Nat.le_of_ble_eq_true rfl)) dX5_readPlain_74 ⟨Nat.le_of_ble_eq_true rfl, Nat.le_of_ble_eq_true rfl⟩) hS (fun q _ h => hFc q h) hFc (fun r_6 u tC H1 locs htC hvm hw_7 hB hz1 hk1 hS => ?_)
    obtain ⟨ecd9_8, ep9_9, em9_10, feC9_11⟩ := u
    try dsimp only at hw_7 hB
    obtain ⟨hP1, hK1, hD1⟩ := hB
    rw [htC] at hP1
    have hK1 := va_K.moved hvm.symm hK1
    obtain ⟨hP, hD⟩ := va_join (wr := []) (w1 := [(zo7iirrrririii bl esg (nI ecl) eW eA eE eC (nI ecd9_8) aTp (nI ez) (nI ep9_9) (nI em9_10)), (zaI aTp cTp 100 fTp), (zaI eC ceC 100 feC9_11)]) hP hD [0, 1, 2] [] rfl rfl (by decide) (by decide) hk1 hFc hP1 hD1
    have hK := (hK.sub (tys' := []) [] rfl).app hK1
    generalize H1 = H at hP hS ⊢
    have hP : va_P (dC, dI) vwCl [(zo7iirrrririii bl esg (nI ecl) eW eA eE eC (nI ecd9_8) aTp (nI ez) (nI ep9_9) (nI em9_10)), (zaI aTp cTp 100 fTp), (zaI eC ceC 100 feC9_11)] H := hP
    have hD : va_D A [(zo7iirrrririii bl esg (nI ecl) eW eA eE eC (nI ecd9_8) aTp (nI ez) (nI ep9_9) (nI em9_10)), (zaI aTp cTp 100 fTp), (zaI eC ceC 100 feC9_11)] := hD
    have hK : va_K (dC, dI) vwCl [(cTp, .int), (ceC, .int)] s := hK
    rcases hw_7 with ⟨rfl, L_12, eP_13, h_14, h_15, h_16, h_17, hX_19, hC_18⟩ | ⟨rfl, eP_13, h_14, h_15, h_16, hC_18⟩
    · skip
      refine lv_if_ne (tgt := 82) hx hb dX5_readPlain_77 (by decide) (fun _ => ?_) (fun c_20 => absurd c_20 (by decide))
      refine lv_aload_n hx hb dX5_readPlain_82 rfl (lv_at hl 1 rfl) ?_
      refine lv_iconst (v := (-1)) hx hb dX5_readPlain_83 (by decide) ?_
      have hPc := hP.sub (ws' := [(zo7iirrrririii bl esg (nI ecl) eW eA eE eC (nI ecd9_8) aTp (nI ez) (nI ep9_9) (nI em9_10)), (zaI eC ceC 100 feC9_11)]) [0, 2] rfl
      have hDc := hD.sub (ws' := [(zo7iirrrririii bl esg (nI ecl) eW eA eE eC (nI ecd9_8) aTp (nI ez) (nI ep9_9) (nI em9_10)), (zaI eC ceC 100 feC9_11)]) [0, 2] (by decide) rfl
      have hKc := hK.sub (tys' := [(ceC, .int)]) [1] rfl
      have hFc := va_free (wc := [(zo7iirrrririii bl esg (nI ecl) eW eA eE eC (nI ecd9_8) aTp (nI ez) (nI ep9_9) (nI em9_10)), (zaI eC ceC 100 feC9_11)]) hD hS hA [0, 2] rfl
      refine va_callv (va_runV (As := [.int (-1)]) (rest := []) ⟨hx, hb, hml, hown, hts⟩ (c_xCode l dC dI bl aTp eW eA eE eC ecl ecd9_8 (-1) esg ceC feC9_11 ez ep9_9 em9_10 (kt ++ L_12) 1801 H.size ((hX_19).mono (by omega)) (by have h6 := (hX_19).1; have h7 := (hX_19).2.1; have h8 := hXT.1; have h9 := hXT.2.1; (try simp only [List.length_append] at h6); omega) (hC_18) (Or.inl rfl) (by decide)) (cwV 1 hts gX5_readPlain_X5_code rfl rfl rfl hd_yX5_code ⟨Nat.le_of_ble_eq_true rfl, Nat.le_of_ble_eq_true rfl⟩) ⟨fun a U g mk q => by obtain ⟨q0, q1, qP, qK, qD⟩ := q; exact ⟨q0, mvz g mk a q1, mvP g mk a qP, mvK g mk a qK, qD⟩, va_recv hK hP (ci := 7) (q := (RX5, TX5, 11)) (q0 := 0) rfl rfl, fun U hU hW => ⟨rfl, by rw [hU], by rw [hU]; exact hPc, va_K.moved hW.alike hKc, hDc.weaken (fun _ _ _ _ => trivial)⟩⟩ rfl rfl hl.1 rfl (lv_room (Nat.le_of_ble_eq_true rfl)) dX5_readPlain_84 ⟨Nat.le_of_ble_eq_true rfl, Nat.le_of_ble_eq_true rfl⟩) hS (fun q _ h => hFc q h) hFc (fun u tC H1 locs htC hvm hw_22 hB hz1 hk1 hS => ?_)
      obtain ⟨ecd9_23, feC9_24⟩ := u
      try dsimp only at hw_22 hB
      obtain ⟨hP1, hK1, hD1⟩ := hB
      rw [htC] at hP1
      have hK1 := va_K.moved hvm.symm hK1
      obtain ⟨hP, hD⟩ := va_join (wr := [(zaI aTp cTp 100 fTp)]) (w1 := [(zo7iirrrririii bl esg (nI ecl) eW eA eE eC (nI ecd9_23) aTp (nI ez) (nI ep9_9) (nI em9_10)), (zaI eC ceC 100 feC9_24)]) hP hD [0, 2] [1] rfl rfl (by decide) (by decide) hk1 hFc hP1 hD1
      have hK := (hK.sub (tys' := [(cTp, .int)]) [0] rfl).app hK1
      generalize H1 = H at hP hS ⊢
      have hP : va_P (dC, dI) vwCl [(zaI aTp cTp 100 fTp), (zo7iirrrririii bl esg (nI ecl) eW eA eE eC (nI ecd9_23) aTp (nI ez) (nI ep9_9) (nI em9_10)), (zaI eC ceC 100 feC9_24)] H := hP
      have hD : va_D A [(zaI aTp cTp 100 fTp), (zo7iirrrririii bl esg (nI ecl) eW eA eE eC (nI ecd9_23) aTp (nI ez) (nI ep9_9) (nI em9_10)), (zaI eC ceC 100 feC9_24)] := hD
      have hK : va_K (dC, dI) vwCl [(cTp, .int), (ceC, .int)] s := hK
      obtain ⟨e_25, hC_26, h_27⟩ := hw_22
      obtain rfl := (e_25).symm
      have hX_28 : XT feC9_24 (ecd9_8 + 1) ((kt ++ L_12) ++ [1801]) (ep9_9) := ⟨by rw [List.length_append, (hX_19).1]; rfl, by have h6 := (hX_19).1; have h7 := (hX_19).2.1; have h8 := hXT.1; have h9 := hXT.2.1; (try simp only [List.length_append] at h6); omega, h_27⟩
      refine lv_iconst (v := 1) hx hb dX5_readPlain_87 (by decide) ?_
      rw [hQ]
      have hP9 := hP.sub (ws' := [(zo7iirrrririii bl esg (nI ecl) eW eA eE eC (nI (ecd9_8 + 1)) aTp (nI ez) (nI ep9_9) (nI em9_10)), (zaI aTp cTp 100 fTp), (zaI eC ceC 100 feC9_24)]) [1, 0, 2] rfl
      have hD9 := hD.sub (ws' := [(zo7iirrrririii bl esg (nI ecl) eW eA eE eC (nI (ecd9_8 + 1)) aTp (nI ez) (nI ep9_9) (nI em9_10)), (zaI aTp cTp 100 fTp), (zaI eC ceC 100 feC9_24)]) [1, 0, 2] (by decide) rfl
      have hK9 := hK.sub (tys' := [(cTp, .int), (ceC, .int)]) [0, 1] rfl
      exact W.zret (v := 1) hx hb hr rfl (fun tQ htQ hWQ => ⟨⟨1, ((ecd9_8 + 1), ep9_9, em9_10, feC9_24), rfl, Or.inl ⟨rfl, (L_12 ++ [1801]), pf_n1 (l := 3) hc eP_13, by omega, by omega, by omega, by (try simp only [List.length_append, List.length_cons, List.length_nil]); omega, XT.as ((hX_28).mono (by omega)), hC_26⟩, by rw [htQ]; exact hP9, va_K.moved hWQ.alike hK9, hD9⟩, hS.F htQ⟩) hS.2.2 dX5_readPlain_88
    · skip
      refine lv_if_ne (tgt := 82) hx hb dX5_readPlain_77 (by decide) (fun c_29 => absurd c_29 (by decide)) (fun _ => ?_)
      refine lv_iconst (v := 0) hx hb dX5_readPlain_80 (by decide) ?_
      rw [hQ]
      have hP9 := hP.sub (ws' := [(zo7iirrrririii bl esg (nI ecl) eW eA eE eC (nI ecd9_8) aTp (nI ez) (nI ep9_9) (nI em9_10)), (zaI aTp cTp 100 fTp), (zaI eC ceC 100 feC9_11)]) [0, 1, 2] rfl
      have hD9 := hD.sub (ws' := [(zo7iirrrririii bl esg (nI ecl) eW eA eE eC (nI ecd9_8) aTp (nI ez) (nI ep9_9) (nI em9_10)), (zaI aTp cTp 100 fTp), (zaI eC ceC 100 feC9_11)]) [0, 1, 2] (by decide) rfl
      have hK9 := hK.sub (tys' := [(cTp, .int), (ceC, .int)]) [0, 1] rfl
      exact W.zret (v := 0) hx hb hr rfl (fun tQ htQ hWQ => ⟨⟨0, (ecd9_8, ep9_9, em9_10, feC9_11), rfl, Or.inr ⟨rfl, pf_n0 (l := 3) hc eP_13, by omega, by omega, by first | omega | (have := (hXT).2.1; omega), hC_18⟩, by rw [htQ]; exact hP9, va_K.moved hWQ.alike hK9, hD9⟩, hS.F htQ⟩) hS.2.2 dX5_readPlain_81
  · skip
    have c_3 : ¬ (ss ep) = 33 := fun q => c_3 ((nI_eq (a := (ss ep)) (b := 33) (by omega) (by omega)).mpr q)
    have hn33 : ¬ ss ep = 33 := c_3
    refine lv_iload_n hx hb dX5_readPlain_11 rfl (lv_at hl 0 rfl) ?_
    refine lv_bipush (v := 40) hx hb dX5_readPlain_12 (by decide) ?_
    refine lv_icmp_eq (tgt := 22) hx hb dX5_readPlain_14 (by decide) (fun c_30 => ?_) (fun c_30 => ?_)
    · skip
      have c_30 : (ss ep) = 40 := (nI_eq (a := (ss ep)) (b := 40) (by omega) (by omega)).mp c_30
      have hc : ss ep = 40 := c_30
      have hlt : ep < ez := Nat.lt_of_not_le (fun z => by have := gX.2.1 ep z; omega)
      refine lv_iload_n hx hb dX5_readPlain_22 rfl (lv_at hl 2 rfl) ?_
      refine lv_iconst (v := 5) hx hb dX5_readPlain_23 (by decide) ?_
      refine lv_icmp_lt (tgt := 29) hx hb dX5_readPlain_24 (by decide) (fun _ => ?_) (fun c_31 => absurd c_31 (by decide))
      refine lv_aload_n hx hb dX5_readPlain_29 rfl (lv_at hl 1 rfl) ?_
      refine lv_dup hx hb dX5_readPlain_30 rfl ?_
      refine va_get (D := (dC, dI)) (ci := 7) (v := .int (nI ep)) (C := RX5) (T := TX5) (N := 11) hx hb hts kc_xPlain1_0 hown hK hP 0 rfl rfl 9 (by decide) (hts (.fieldLink RX5 34 "MistHeaps$Hill" "at" "I") kc_xPlain1_1) (fun _ h9 => h9) rfl dX5_readPlain_31 ?_
      refine lv_iconst (v := 1) hx hb dX5_readPlain_34 (by decide) ?_
      refine lv_iadd hx hb dX5_readPlain_35 ?_
      refine qi_as (y := nI (ep + 1)) (nI_add ep 1) ?_
      refine va_put (D := (dC, dI)) (ci := 7) (v := .int (nI (ep + 1))) (ty := .int) (C := RX5) (T := TX5) (N := 11) hx hb hts kc_xPlain1_0 tyX5 tyX5_ok nmX5 hown hK hP hD hS 0 rfl rfl 9 (by decide) (hts (.fieldLink RX5 34 "MistHeaps$Hill" "at" "I") kc_xPlain1_1) (fun _ h9 => h9) rfl (by decide +kernel) rfl rfl (Nat.le_of_ble_eq_true rfl) dX5_readPlain_36 (fun H locs hP hD hS => ?_)
      have hP : va_P (dC, dI) vwCl [(zo7iirrrririii bl esg (nI ecl) eW eA eE eC (nI ecd) aTp (nI ez) (nI (ep + 1)) (nI em)), (zaI aTp cTp 100 fTp), (zaI eC ceC 100 feC)] H := hP
      have hD : va_D A [(zo7iirrrririii bl esg (nI ecl) eW eA eE eC (nI ecd) aTp (nI ez) (nI (ep + 1)) (nI em)), (zaI aTp cTp 100 fTp), (zaI eC ceC 100 feC)] := hD
      refine lv_iload_n hx hb dX5_readPlain_39 rfl (lv_at hl 0 rfl) ?_
      refine lv_bipush (v := 40) hx hb dX5_readPlain_40 (by decide) ?_
      refine lv_icmp_ne (tgt := 70) hx hb dX5_readPlain_42 (by decide) (fun c_32 => absurd c_32 (fun z9 => z9 ((nI_eq (a := ss ep) (b := 40) (by omega) (by omega)).mpr hc))) (fun c_32 => ?_)
      have c_32 : (ss ep) = 40 := (nI_eq (a := (ss ep)) (b := 40) (by omega) (by omega)).mp c_32
      refine lv_aload_n hx hb dX5_readPlain_45 rfl (lv_at hl 1 rfl) ?_
      refine lv_iload_n hx hb dX5_readPlain_46 rfl (lv_at hl 2 rfl) ?_
      refine lv_iconst (v := 1) hx hb dX5_readPlain_47 (by decide) ?_
      refine lv_iadd hx hb dX5_readPlain_48 ?_
      refine qi_as (y := 2) (by decide) ?_
      have hPc := hP.sub (ws' := [(zo7iirrrririii bl esg (nI ecl) eW eA eE eC (nI ecd) aTp (nI ez) (nI (ep + 1)) (nI em)), (zaI aTp cTp 100 fTp), (zaI eC ceC 100 feC)]) [0, 1, 2] rfl
      have hDc := hD.sub (ws' := [(zo7iirrrririii bl esg (nI ecl) eW eA eE eC (nI ecd) aTp (nI ez) (nI (ep + 1)) (nI em)), (zaI aTp cTp 100 fTp), (zaI eC ceC 100 feC)]) [0, 1, 2] (by decide) rfl
      have hKc := hK.sub (tys' := [(cTp, .int), (ceC, .int)]) [0, 1] rfl
      have hFc := va_free (wc := [(zo7iirrrririii bl esg (nI ecl) eW eA eE eC (nI ecd) aTp (nI ez) (nI (ep + 1)) (nI em)), (zaI aTp cTp 100 fTp), (zaI eC ceC 100 feC)]) hD hS hA [0, 1, 2] rfl
      refine va_calli (va_runV (As := [.int 2]) (rest := []) ⟨hx, hb, hml, hown, hts⟩ (c_xEither2 l dC dI sK sV bl aTp eW eA eE eC ecl ecd esg cTp ceC fTp feC ez (ep + 1) em ss kt H.size (hez) (by omega) (by omega) ((hXT).mono (by omega)) (zeC) (gX)) (cwV 1 hts gX5_readPlain_X5_readEither rfl rfl rfl hd_yX5_readEither ⟨Nat.le_of_ble_eq_true rfl, Nat.le_of_ble_eq_true rfl⟩) ⟨fun a U g mk q => by obtain ⟨q0, q1, qP, qK, qD, qhE⟩ := q; exact ⟨q0, mvz g mk a q1, mvP g mk a qP, mvK g mk a qK, qD, qhE.mv g mk a⟩, va_recv hK hP (ci := 7) (q := (RX5, TX5, 11)) (q0 := 0) rfl rfl, fun U hU hW => ⟨rfl, by rw [hU], by rw [hU]; exact hPc, va_K.moved hW.alike hKc, hDc.weaken (fun _ _ _ _ => trivial), hE.call hS hU hW (fun q h => hFc q h)⟩⟩ rfl rfl hl.1 rfl (lv_room (Nat.le_of_ble_eq_true rfl)) dX5_readPlain_49 ⟨Nat.le_of_ble_eq_true rfl, Nat.le_of_ble_eq_true rfl⟩) hS (fun q _ h => hFc q h) hFc (fun r_33 u tC H1 locs htC hvm hw_34 hB hz1 hk1 hS => ?_)
      obtain ⟨ecd9_35, ep9_36, em9_37, feC9_38⟩ := u
      try dsimp only at hw_34 hB
      obtain ⟨hP1, hK1, hD1⟩ := hB
      rw [htC] at hP1
      have hK1 := va_K.moved hvm.symm hK1
      obtain ⟨hP, hD⟩ := va_join (wr := []) (w1 := [(zo7iirrrririii bl esg (nI ecl) eW eA eE eC (nI ecd9_35) aTp (nI ez) (nI ep9_36) (nI em9_37)), (zaI aTp cTp 100 fTp), (zaI eC ceC 100 feC9_38)]) hP hD [0, 1, 2] [] rfl rfl (by decide) (by decide) hk1 hFc hP1 hD1
      have hK := (hK.sub (tys' := []) [] rfl).app hK1
      generalize H1 = H at hP hS ⊢
      have hP : va_P (dC, dI) vwCl [(zo7iirrrririii bl esg (nI ecl) eW eA eE eC (nI ecd9_35) aTp (nI ez) (nI ep9_36) (nI em9_37)), (zaI aTp cTp 100 fTp), (zaI eC ceC 100 feC9_38)] H := hP
      have hD : va_D A [(zo7iirrrririii bl esg (nI ecl) eW eA eE eC (nI ecd9_35) aTp (nI ez) (nI ep9_36) (nI em9_37)), (zaI aTp cTp 100 fTp), (zaI eC ceC 100 feC9_38)] := hD
      have hK : va_K (dC, dI) vwCl [(cTp, .int), (ceC, .int)] s := hK
      rcases hw_34 with ⟨rfl, L_39, eP_40, h_41, h_42, h_43, h_44, hX_46, hC_45⟩ | ⟨rfl, eP_40, h_41, h_42, h_43, hC_45⟩
      · skip
        refine lv_if_eq (tgt := 68) hx hb dX5_readPlain_52 (by decide) (fun c_47 => absurd c_47 (by decide)) (fun _ => ?_)
        refine lv_aload_n hx hb dX5_readPlain_55 rfl (lv_at hl 1 rfl) ?_
        refine lv_bipush (v := 41) hx hb dX5_readPlain_56 (by decide) ?_
        have hPc := hP.sub (ws' := [(zo7iirrrririii bl esg (nI ecl) eW eA eE eC (nI ecd9_35) aTp (nI ez) (nI ep9_36) (nI em9_37)), (zaI aTp cTp 100 fTp)]) [0, 1] rfl
        have hDc := hD.sub (ws' := [(zo7iirrrririii bl esg (nI ecl) eW eA eE eC (nI ecd9_35) aTp (nI ez) (nI ep9_36) (nI em9_37)), (zaI aTp cTp 100 fTp)]) [0, 1] (by decide) rfl
        have hKc := hK.sub (tys' := [(cTp, .int)]) [0] rfl
        have hFc := va_free (wc := [(zo7iirrrririii bl esg (nI ecl) eW eA eE eC (nI ecd9_35) aTp (nI ez) (nI ep9_36) (nI em9_37)), (zaI aTp cTp 100 fTp)]) hD hS hA [0, 1] rfl
        refine va_calli (va_runV (As := [.int 41]) (rest := []) ⟨hx, hb, hml, hown, hts⟩ (c_xReadSign l dC dI bl aTp eW eA eE eC 41 ecl ecd9_35 esg cTp fTp ez ep9_36 em9_37 ss H.size (hez) (by omega) (by decide) (by decide) (gX)) (cwV 1 hts gX5_readPlain_X5_readSign rfl rfl rfl hd_yX5_readSign ⟨Nat.le_of_ble_eq_true rfl, Nat.le_of_ble_eq_true rfl⟩) ⟨fun a U g mk q => by obtain ⟨q0, q1, qP, qK, qD⟩ := q; exact ⟨q0, mvz g mk a q1, mvP g mk a qP, mvK g mk a qK, qD⟩, va_recv hK hP (ci := 7) (q := (RX5, TX5, 11)) (q0 := 0) rfl rfl, fun U hU hW => ⟨rfl, by rw [hU], by rw [hU]; exact hPc, va_K.moved hW.alike hKc, hDc.weaken (fun _ _ _ _ => trivial)⟩⟩ rfl rfl hl.1 rfl (lv_room (Nat.le_of_ble_eq_true rfl)) dX5_readPlain_58 ⟨Nat.le_of_ble_eq_true rfl, Nat.le_of_ble_eq_true rfl⟩) hS (fun q _ h => hFc q h) hFc (fun r_48 u tC H1 locs htC hvm hw_49 hB hz1 hk1 hS => ?_)
        obtain ⟨ep9_50, rfl⟩ : ∃ z, z = u := ⟨_, rfl⟩
        try dsimp only at hw_49 hB
        obtain ⟨hP1, hK1, hD1⟩ := hB
        rw [htC] at hP1
        have hK1 := va_K.moved hvm.symm hK1
        obtain ⟨hP, hD⟩ := va_join (wr := [(zaI eC ceC 100 feC9_38)]) (w1 := [(zo7iirrrririii bl esg (nI ecl) eW eA eE eC (nI ecd9_35) aTp (nI ez) (nI ep9_50) (nI em9_37)), (zaI aTp cTp 100 fTp)]) hP hD [0, 1] [2] rfl rfl (by decide) (by decide) hk1 hFc hP1 hD1
        have hK := (hK.sub (tys' := [(ceC, .int)]) [1] rfl).app hK1
        generalize H1 = H at hP hS ⊢
        have hP : va_P (dC, dI) vwCl [(zaI eC ceC 100 feC9_38), (zo7iirrrririii bl esg (nI ecl) eW eA eE eC (nI ecd9_35) aTp (nI ez) (nI ep9_50) (nI em9_37)), (zaI aTp cTp 100 fTp)] H := hP
        have hD : va_D A [(zaI eC ceC 100 feC9_38), (zo7iirrrririii bl esg (nI ecl) eW eA eE eC (nI ecd9_35) aTp (nI ez) (nI ep9_50) (nI em9_37)), (zaI aTp cTp 100 fTp)] := hD
        have hK : va_K (dC, dI) vwCl [(ceC, .int), (cTp, .int)] s := hK
        rcases hw_49 with ⟨rfl, hy41, h_51, e_52⟩ | ⟨rfl, hn41, e_52⟩
        · skip
          obtain rfl := (e_52).symm
          refine lv_if_eq (tgt := 68) hx hb dX5_readPlain_61 (by decide) (fun c_53 => absurd c_53 (by decide)) (fun _ => ?_)
          refine lv_iconst (v := 1) hx hb dX5_readPlain_64 (by decide) ?_
          refine lv_goto (tgt := 69) hx hb dX5_readPlain_65 (by decide) ?_
          rw [hQ]
          have hP9 := hP.sub (ws' := [(zo7iirrrririii bl esg (nI ecl) eW eA eE eC (nI ecd9_35) aTp (nI ez) (nI (ep9_36 + 1)) (nI em9_37)), (zaI aTp cTp 100 fTp), (zaI eC ceC 100 feC9_38)]) [1, 2, 0] rfl
          have hD9 := hD.sub (ws' := [(zo7iirrrririii bl esg (nI ecl) eW eA eE eC (nI ecd9_35) aTp (nI ez) (nI (ep9_36 + 1)) (nI em9_37)), (zaI aTp cTp 100 fTp), (zaI eC ceC 100 feC9_38)]) [1, 2, 0] (by decide) rfl
          have hK9 := hK.sub (tys' := [(cTp, .int), (ceC, .int)]) [1, 0] rfl
          exact W.zret (v := 1) hx hb hr rfl (fun tQ htQ hWQ => ⟨⟨1, (ecd9_35, (ep9_36 + 1), em9_37, feC9_38), rfl, Or.inl ⟨rfl, L_39, pf_b2 (l := 3) hc eP_40 hy41, by omega, by omega, by omega, by (try simp only [List.length_append, List.length_cons, List.length_nil]); omega, (hX_46).mono (by omega), hC_45⟩, by rw [htQ]; exact hP9, va_K.moved hWQ.alike hK9, hD9⟩, hS.F htQ⟩) hS.2.2 dX5_readPlain_69
        · skip
          obtain rfl := (e_52).symm
          refine lv_if_eq (tgt := 68) hx hb dX5_readPlain_61 (by decide) (fun _ => ?_) (fun c_54 => absurd c_54 (by decide))
          refine lv_iconst (v := 0) hx hb dX5_readPlain_68 (by decide) ?_
          rw [hQ]
          have hP9 := hP.sub (ws' := [(zo7iirrrririii bl esg (nI ecl) eW eA eE eC (nI ecd9_35) aTp (nI ez) (nI ep9_36) (nI em9_37)), (zaI aTp cTp 100 fTp), (zaI eC ceC 100 feC9_38)]) [1, 2, 0] rfl
          have hD9 := hD.sub (ws' := [(zo7iirrrririii bl esg (nI ecl) eW eA eE eC (nI ecd9_35) aTp (nI ez) (nI ep9_36) (nI em9_37)), (zaI aTp cTp 100 fTp), (zaI eC ceC 100 feC9_38)]) [1, 2, 0] (by decide) rfl
          have hK9 := hK.sub (tys' := [(cTp, .int), (ceC, .int)]) [1, 0] rfl
          exact W.zret (v := 0) hx hb hr rfl (fun tQ htQ hWQ => ⟨⟨0, (ecd9_35, ep9_36, em9_37, feC9_38), rfl, Or.inr ⟨rfl, pf_b1 (l := 3) hc eP_40 hn41, by omega, by omega, by first | omega | (have := (hX_46).2.1; omega), hC_45⟩, by rw [htQ]; exact hP9, va_K.moved hWQ.alike hK9, hD9⟩, hS.F htQ⟩) hS.2.2 dX5_readPlain_69
      · skip
        refine lv_if_eq (tgt := 68) hx hb dX5_readPlain_52 (by decide) (fun _ => ?_) (fun c_55 => absurd c_55 (by decide))
        refine lv_iconst (v := 0) hx hb dX5_readPlain_68 (by decide) ?_
        rw [hQ]
        have hP9 := hP.sub (ws' := [(zo7iirrrririii bl esg (nI ecl) eW eA eE eC (nI ecd9_35) aTp (nI ez) (nI ep9_36) (nI em9_37)), (zaI aTp cTp 100 fTp), (zaI eC ceC 100 feC9_38)]) [0, 1, 2] rfl
        have hD9 := hD.sub (ws' := [(zo7iirrrririii bl esg (nI ecl) eW eA eE eC (nI ecd9_35) aTp (nI ez) (nI ep9_36) (nI em9_37)), (zaI aTp cTp 100 fTp), (zaI eC ceC 100 feC9_38)]) [0, 1, 2] (by decide) rfl
        have hK9 := hK.sub (tys' := [(cTp, .int), (ceC, .int)]) [0, 1] rfl
        exact W.zret (v := 0) hx hb hr rfl (fun tQ htQ hWQ => ⟨⟨0, (ecd9_35, ep9_36, em9_37, feC9_38), rfl, Or.inr ⟨rfl, pf_b0 (l := 3) hc eP_40, by omega, by omega, by first | omega | (have := (hXT).2.1; omega), hC_45⟩, by rw [htQ]; exact hP9, va_K.moved hWQ.alike hK9, hD9⟩, hS.F htQ⟩) hS.2.2 dX5_readPlain_69
    · skip
      have c_30 : ¬ (ss ep) = 40 := fun q => c_30 ((nI_eq (a := (ss ep)) (b := 40) (by omega) (by omega)).mpr q)
      have hn40 : ¬ ss ep = 40 := c_30
      refine lv_aload_n hx hb dX5_readPlain_17 rfl (lv_at hl 1 rfl) ?_
      have hPc := hP.sub (ws' := [(zo7iirrrririii bl esg (nI ecl) eW eA eE eC (nI ecd) aTp (nI ez) (nI ep) (nI em)), (zaI aTp cTp 100 fTp), (zaI eC ceC 100 feC)]) [0, 1, 2] rfl
      have hDc := hD.sub (ws' := [(zo7iirrrririii bl esg (nI ecl) eW eA eE eC (nI ecd) aTp (nI ez) (nI ep) (nI em)), (zaI aTp cTp 100 fTp), (zaI eC ceC 100 feC)]) [0, 1, 2] (by decide) rfl
      have hKc := hK.sub (tys' := [(cTp, .int), (ceC, .int)]) [0, 1] rfl
      have hFc := va_free (wc := [(zo7iirrrririii bl esg (nI ecl) eW eA eE eC (nI ecd) aTp (nI ez) (nI ep) (nI em)), (zaI aTp cTp 100 fTp), (zaI eC ceC 100 feC)]) hD hS hA [0, 1, 2] rfl
      refine va_calli (va_runV (As := []) (rest := []) ⟨hx, hb, hml, hown, hts⟩ (c_readTest l dC dI sK sV bl aTp eW eA eE eC ecl ecd esg cTp ceC fTp feC ez ep em ss kt H.size (hez) (by omega) (by omega) ((hXT).mono (by omega)) (zeC) (gX)) (cwV 0 hts gX5_readPlain_X5_readTest rfl rfl rfl hd_yX5_readTest ⟨Nat.le_of_ble_eq_true rfl, Nat.le_of_ble_eq_true rfl⟩) ⟨fun a U g mk q => by obtain ⟨q0, q1, qP, qK, qD, qhE⟩ := q; exact ⟨q0, mvz g mk a q1, mvP g mk a qP, mvK g mk a qK, qD, qhE.mv g mk a⟩, va_recv hK hP (ci := 7) (q := (RX5, TX5, 11)) (q0 := 0) rfl rfl, fun U hU hW => ⟨rfl, by rw [hU], by rw [hU]; exact hPc, va_K.moved hW.alike hKc, hDc.weaken (fun _ _ _ _ => trivial), hE.call hS hU hW (fun q h => hFc q h)⟩⟩ rfl rfl hl.1 rfl (lv_room (Nat.le_of_ble_eq_true rfl)) dX5_readPlain_18 ⟨Nat.le_of_ble_eq_true rfl, Nat.le_of_ble_eq_true rfl⟩) hS (fun q _ h => hFc q h) hFc (fun r_56 u tC H1 locs htC hvm hw_57 hB hz1 hk1 hS => ?_)
      obtain ⟨ecd9_58, ep9_59, em9_60, feC9_61⟩ := u
      try dsimp only at hw_57 hB
      obtain ⟨hP1, hK1, hD1⟩ := hB
      rw [htC] at hP1
      have hK1 := va_K.moved hvm.symm hK1
      obtain ⟨hP, hD⟩ := va_join (wr := []) (w1 := [(zo7iirrrririii bl esg (nI ecl) eW eA eE eC (nI ecd9_58) aTp (nI ez) (nI ep9_59) (nI em9_60)), (zaI aTp cTp 100 fTp), (zaI eC ceC 100 feC9_61)]) hP hD [0, 1, 2] [] rfl rfl (by decide) (by decide) hk1 hFc hP1 hD1
      have hK := (hK.sub (tys' := []) [] rfl).app hK1
      generalize H1 = H at hP hS ⊢
      have hP : va_P (dC, dI) vwCl [(zo7iirrrririii bl esg (nI ecl) eW eA eE eC (nI ecd9_58) aTp (nI ez) (nI ep9_59) (nI em9_60)), (zaI aTp cTp 100 fTp), (zaI eC ceC 100 feC9_61)] H := hP
      have hD : va_D A [(zo7iirrrririii bl esg (nI ecl) eW eA eE eC (nI ecd9_58) aTp (nI ez) (nI ep9_59) (nI em9_60)), (zaI aTp cTp 100 fTp), (zaI eC ceC 100 feC9_61)] := hD
      have hK : va_K (dC, dI) vwCl [(cTp, .int), (ceC, .int)] s := hK
      rw [hQ]
      have hP9 := hP.sub (ws' := [(zo7iirrrririii bl esg (nI ecl) eW eA eE eC (nI ecd9_58) aTp (nI ez) (nI ep9_59) (nI em9_60)), (zaI aTp cTp 100 fTp), (zaI eC ceC 100 feC9_61)]) [0, 1, 2] rfl
      have hD9 := hD.sub (ws' := [(zo7iirrrririii bl esg (nI ecl) eW eA eE eC (nI ecd9_58) aTp (nI ez) (nI ep9_59) (nI em9_60)), (zaI aTp cTp 100 fTp), (zaI eC ceC 100 feC9_61)]) [0, 1, 2] (by decide) rfl
      have hK9 := hK.sub (tys' := [(cTp, .int), (ceC, .int)]) [0, 1] rfl
      exact W.zret (v := r_56) hx hb hr (by first | rfl | (rcases hw_57 with ⟨e9, _⟩ | ⟨e9, _⟩ <;> rw [e9] <;> rfl)) (fun tQ htQ hWQ => ⟨⟨r_56, (ecd9_58, ep9_59, em9_60, feC9_61), rfl, by rw [show pFac ss 4 ep = pTest ss ep from pf_t hn33 hn40]; exact hw_57, by rw [htQ]; exact hP9, va_K.moved hWQ.alike hK9, hD9⟩, hS.F htQ⟩) hS.2.2 dX5_readPlain_21

theorem kc_xBoth1_0 : ∀ w ∈ wsX50, w ∈ wsX5_readBoth := fun w h => List.mem_cons_of_mem _ (gin_wsX50 w h)
theorem kc_xBoth1_1 : (.fieldLink RX5 31 "MistHeaps$Hill" "size" "I" : Cond) ∈ wsX5_readBoth := kc_of 123 rfl rfl rfl
set_option maxHeartbeats 4000000 in
set_option maxRecDepth 100000 in
theorem c_xBoth1 (l : Launch) (dC : Nat → ClassId) (dI : Nat → Nat → Nat) (sK sV : Nat → Nat) (bl : Nat) (aTp : Nat) (eW : Nat) (eA : Nat) (eE : Nat) (eC : Nat) (ecl : Nat) (ecd : Nat) (esg : Int32) (cTp : ClassId) (ceC : ClassId) (fTp : Nat → Int32) (feC : Nat → Int32) (ez : Nat) (ep : Nat) (em : Nat) (ss : Nat → Nat) (kt : List Nat) (sz : Nat) (hez : ez ≤ 100) (hep : ep ≤ ez) (hem : em ≤ 99) (hXT : XT feC ecd kt ep) (zeC : ∀ k0, k0 < 100 → okC (feC k0)) (gX : TX fTp ez ss) : Met l yX5_readBoth wsX5_readBoth ({ frames := 18, cells := 0, slots := 0, locals := 399 } : Room) (va_Pc [.ref bl, .int 1] (fun U => U.heap.size = sz ∧ va_P (dC, dI) vwCl [(zo7iirrrririii bl esg (nI ecl) eW eA eE eC (nI ecd) aTp (nI ez) (nI ep) (nI em)), (zaI aTp cTp 100 fTp), (zaI eC ceC 100 feC)] U.heap ∧ va_K (dC, dI) vwCl [(cTp, .int), (ceC, .int)] U ∧ va_D (fun _ => True) [(zo7iirrrririii bl esg (nI ecl) eW eA eE eC (nI ecd) aTp (nI ez) (nI ep) (nI em)), (zaI aTp cTp 100 fTp), (zaI eC ceC 100 feC)] ∧ Gs sK sV (va_A [(zo7iirrrririii bl esg (nI ecl) eW eA eE eC (nI ecd) aTp (nI ez) (nI ep) (nI em)), (zaI aTp cTp 100 fTp), (zaI eC ceC 100 feC)] sz) U)) (va_Qi (fun (r : Int32) (u : (Nat) × (Nat) × (Nat) × (Nat → Int32)) => match u with | (ecd9, ep9, em9, feC9) => (r = 1 ∧ ∃ L0 : List Nat, pEv ss (pFac ss 4) ep = (some L0, ep9) ∧ ep + 3 ≤ ep9 ∧ ep9 ≤ ez ∧ em9 ≤ 99 ∧ L0.length + ep ≤ ep9 ∧ XT feC9 ecd9 (kt ++ L0) ep9 ∧ ∀ k0, k0 < 100 → okC (feC9 k0)) ∨ (r = 0 ∧ pEv ss (pFac ss 4) ep = (none, ep9) ∧ ep9 ≤ ez + 2 ∧ em9 ≤ 99 ∧ ecd9 ≤ 100 ∧ ∀ k0, k0 < 100 → okC (feC9 k0))) (fun (u : (Nat) × (Nat) × (Nat) × (Nat → Int32)) (t : State) => match u with | (ecd9, ep9, em9, feC9) => va_P (dC, dI) vwCl [(zo7iirrrririii bl esg (nI ecl) eW eA eE eC (nI ecd9) aTp (nI ez) (nI ep9) (nI em9)), (zaI aTp cTp 100 fTp), (zaI eC ceC 100 feC9)] t.heap ∧ va_K (dC, dI) vwCl [(cTp, .int), (ceC, .int)] t ∧ va_D (va_A [(zo7iirrrririii bl esg (nI ecl) eW eA eE eC (nI ecd) aTp (nI ez) (nI ep) (nI em)), (zaI aTp cTp 100 fTp), (zaI eC ceC 100 feC)] sz) [(zo7iirrrririii bl esg (nI ecl) eW eA eE eC (nI ecd9) aTp (nI ez) (nI ep9) (nI em9)), (zaI aTp cTp 100 fTp), (zaI eC ceC 100 feC9)]) (va_A [(zo7iirrrririii bl esg (nI ecl) eW eA eE eC (nI ecd) aTp (nI ez) (nI ep) (nI em)), (zaI aTp cTp 100 fTp), (zaI eC ceC 100 feC)] sz)) 0 0 (va_A [(zo7iirrrririii bl esg (nI ecl) eW eA eE eC (nI ecd) aTp (nI ez) (nI ep) (nI em)), (zaI aTp cTp 100 fTp), (zaI eC ceC 100 feC)] sz) := by
  refine met_ofQ (cc := cX5_readBoth) (maxL := 3) (ret := (some .boolean)) (by decide) rfl ?_
  intro p e s m args below meth c s₁ Q B hml hv hQ
  obtain ⟨rfl, hsz, hP, hK, hD0, hE⟩ := hv
  have hx := B.exec
  have hb := B.bytes
  have hr := B.returns
  have hts := atoms_spec (ws := wsX5_readBoth) B.pre
  have hown : s.vm.findClass RX5 = some m.cls := findClass_of_methodNamed B.named
  have hlocks := B.notSynchronized
  subst hsz
  have hD := hD0.self (sz := s.heap.size)
  generalize hAe : va_A [(zo7iirrrririii bl esg (nI ecl) eW eA eE eC (nI ecd) aTp (nI ez) (nI ep) (nI em)), (zaI aTp cTp 100 fTp), (zaI eC ceC 100 feC)] s.heap.size = A at hD hQ hE ⊢
  have hA : ∀ q : Nat, s.heap.size ≤ q → A q := fun q h => by rw [← hAe]; exact Or.inr h
  have hS : va_S A s.heap s.heap [] := va_S.rf
  have hl := lv_entry [.ref bl, .int 1] (n := 3) (Nat.le_of_ble_eq_true rfl)
  rw [lg_entry_eq]
  generalize (lg_sl [.ref bl, .int 1] ++ List.replicate (3 - (lg_sl [.ref bl, .int 1]).length) Slot.unset).toArray = ls at hl ⊢
  generalize hag : ([.ref bl, .int 1] : List Value).toArray = args at hts hQ ⊢
  have hl : lv_has ls 3 [(0, .ref bl), (1, .int 1)] := hl
  obtain ⟨H, hH⟩ : ∃ H : Heap, H = s.heap := ⟨_, rfl⟩
  rw [← hH] at hP
  rw [← hH]
  have hS : va_S A s.heap H [] := by rw [hH]; exact hS
  obtain ⟨locs, hlo⟩ : ∃ L : List Loc, L = [] := ⟨_, rfl⟩
  rw [← hlo] at hS
  rw [← hlo]
  clear hH hlo
  refine lv_aload_n hx hb dX5_readBoth_0 rfl (lv_at hl 0 rfl) ?_
  refine lv_iload_n hx hb dX5_readBoth_1 rfl (lv_at hl 1 rfl) ?_
  have hPc := hP.sub (ws' := [(zo7iirrrririii bl esg (nI ecl) eW eA eE eC (nI ecd) aTp (nI ez) (nI ep) (nI em)), (zaI aTp cTp 100 fTp), (zaI eC ceC 100 feC)]) [0, 1, 2] rfl
  have hDc := hD.sub (ws' := [(zo7iirrrririii bl esg (nI ecl) eW eA eE eC (nI ecd) aTp (nI ez) (nI ep) (nI em)), (zaI aTp cTp 100 fTp), (zaI eC ceC 100 feC)]) [0, 1, 2] (by decide) rfl
  have hKc := hK.sub (tys' := [(cTp, .int), (ceC, .int)]) [0, 1] rfl
  have hFc := va_free (wc := [(zo7iirrrririii bl esg (nI ecl) eW eA eE eC (nI ecd) aTp (nI ez) (nI ep) (nI em)), (zaI aTp cTp 100 fTp), (zaI eC ceC 100 feC)]) hD hS hA [0, 1, 2] rfl
  refine va_calli (va_runV (As := [.int 1]) (rest := []) ⟨hx, hb, hml, hown, hts⟩ (c_xPlain1 l dC dI sK sV bl aTp eW eA eE eC ecl ecd esg cTp ceC fTp feC ez ep em ss kt H.size (hez) (by omega) (by omega) ((hXT).mono (by omega)) (zeC) (gX)) (cwV 1 hts gX5_readBoth_X5_readPlain rfl rfl rfl hd_yX5_readPlain ⟨Nat.le_of_ble_eq_true rfl, Nat.le_of_ble_eq_true rfl⟩) ⟨fun a U g mk q => by obtain ⟨q0, q1, qP, qK, qD, qhE⟩ := q; exact ⟨q0, mvz g mk a q1, mvP g mk a qP, mvK g mk a qK, qD, qhE.mv g mk a⟩, va_recv hK hP (ci := 7) (q := (RX5, TX5, 11)) (q0 := 0) rfl rfl, fun U hU hW => ⟨rfl, by rw [hU], by rw [hU]; exact hPc, va_K.moved hW.alike hKc, hDc.weaken (fun _ _ _ _ => trivial), hE.call hS hU hW (fun q h => hFc q h)⟩⟩ rfl rfl hl.1 rfl (lv_room (Nat.le_of_ble_eq_true rfl)) dX5_readBoth_2 ⟨Nat.le_of_ble_eq_true rfl, Nat.le_of_ble_eq_true rfl⟩) hS (fun q _ h => hFc q h) hFc (fun r_1 u tC H1 locs htC hvm hw_2 hB hz1 hk1 hS => ?_)
  obtain ⟨ecd9_3, ep9_4, em9_5, feC9_6⟩ := u
  try dsimp only at hw_2 hB
  obtain ⟨hP1, hK1, hD1⟩ := hB
  rw [htC] at hP1
  have hK1 := va_K.moved hvm.symm hK1
  obtain ⟨hP, hD⟩ := va_join (wr := []) (w1 := [(zo7iirrrririii bl esg (nI ecl) eW eA eE eC (nI ecd9_3) aTp (nI ez) (nI ep9_4) (nI em9_5)), (zaI aTp cTp 100 fTp), (zaI eC ceC 100 feC9_6)]) hP hD [0, 1, 2] [] rfl rfl (by decide) (by decide) hk1 hFc hP1 hD1
  have hK := (hK.sub (tys' := []) [] rfl).app hK1
  generalize H1 = H at hP hS ⊢
  have hP : va_P (dC, dI) vwCl [(zo7iirrrririii bl esg (nI ecl) eW eA eE eC (nI ecd9_3) aTp (nI ez) (nI ep9_4) (nI em9_5)), (zaI aTp cTp 100 fTp), (zaI eC ceC 100 feC9_6)] H := hP
  have hD : va_D A [(zo7iirrrririii bl esg (nI ecl) eW eA eE eC (nI ecd9_3) aTp (nI ez) (nI ep9_4) (nI em9_5)), (zaI aTp cTp 100 fTp), (zaI eC ceC 100 feC9_6)] := hD
  have hK : va_K (dC, dI) vwCl [(cTp, .int), (ceC, .int)] s := hK
  rcases hw_2 with ⟨rfl, L_7, eP_8, h_9, h_10, h_11, h_12, hX_14, hC_13⟩ | ⟨rfl, eP_8, h_9, h_10, h_11, hC_13⟩
  · skip
    refine lv_if_ne (tgt := 10) hx hb dX5_readBoth_5 (by decide) (fun _ => ?_) (fun c_15 => absurd c_15 (by decide))
    refine lv_iconst (v := 0) hx hb dX5_readBoth_10 (by decide) ?_
    refine lv_istore_n (lv' := [(2, .int 0), (0, .ref bl), (1, .int 1)]) hx hb dX5_readBoth_11 rfl hl (by decide) rfl (fun ls hl => ?_)
    have L12 : ∀ (nF : Nat) (i : Nat) (ecd2 : Nat) (ep2 : Nat) (em2 : Nat) (feC2 : Nat → Int32) (L1 : List Nat) (m1 : Nat), ez - i < nF → (i ≤ ez) → (pEv ss (pFac ss 4) ep = pSep ss 38 1802 (pFac ss 4) m1 (some L1, ep2) ∧ 101 ≤ m1 + ep2) → (ep + 3 + 2 * i ≤ ep2 ∧ ep2 ≤ ez ∧ em2 ≤ 99) → (L1.length + ep ≤ ep2) → (XT feC2 ecd2 (kt ++ L1) ep2) → (∀ k0, k0 < 100 → okC (feC2 k0)) → ∀ (H : Heap) (locs : List Loc), va_K (dC, dI) vwCl [(cTp, .int), (ceC, .int)] s → va_P (dC, dI) vwCl [(zo7iirrrririii bl esg (nI ecl) eW eA eE eC (nI ecd2) aTp (nI ez) (nI ep2) (nI em2)), (zaI aTp cTp 100 fTp), (zaI eC ceC 100 feC2)] H → va_D A [(zo7iirrrririii bl esg (nI ecl) eW eA eE eC (nI ecd2) aTp (nI ez) (nI ep2) (nI em2)), (zaI aTp cTp 100 fTp), (zaI eC ceC 100 feC2)] → va_S A s.heap H locs → ∀ (ls : Array Slot), lv_has ls 3 [(0, .ref bl), (1, .int 1), (2, .int (nI i))] → W p l e ({ frames := 18, cells := 0, slots := 0, locals := 399 } : Room) s m args below meth c H locs 0 0 Q (F0 m 12 ls []) := by
      intro nF
      induction nF with
      | zero => intro i ecd2 ep2 em2 feC2 L1 m1 hm; exact absurd hm (Nat.not_lt_zero _)
      | succ nF ih12 =>
        intro i ecd2 ep2 em2 feC2 L1 m1 hm hii hE9 hp2 hL2 hX2 zC2 H locs hK hP hD hS ls hl
        obtain ⟨hE9, hm9⟩ := hE9
        obtain ⟨hp2a, hp2b, hp2c⟩ := hp2
        refine lv_iload_n hx hb dX5_readBoth_12 rfl (lv_at hl 2 rfl) ?_
        refine lv_aload_n hx hb dX5_readBoth_13 rfl (lv_at hl 0 rfl) ?_
        refine va_get (D := (dC, dI)) (ci := 7) (v := .int (nI ez)) (C := RX5) (T := TX5) (N := 11) hx hb hts kc_xBoth1_0 hown hK hP 0 rfl rfl 8 (by decide) (hts (.fieldLink RX5 31 "MistHeaps$Hill" "size" "I") kc_xBoth1_1) (fun _ h9 => h9) rfl dX5_readBoth_14 ?_
        refine lv_icmp_ge (tgt := 51) hx hb dX5_readBoth_17 (by decide) (fun c_16 => ?_) (fun c_16 => ?_)
        · skip
          have c_16 : ez ≤ i := (nI_leI (a := ez) (b := i) (by omega) (by omega)).mp c_16
          refine lv_iconst (v := 1) hx hb dX5_readBoth_51 (by decide) ?_
          rw [hQ]
          have hP9 := hP.sub (ws' := [(zo7iirrrririii bl esg (nI ecl) eW eA eE eC (nI ecd2) aTp (nI ez) (nI ep2) (nI em2)), (zaI aTp cTp 100 fTp), (zaI eC ceC 100 feC2)]) [0, 1, 2] rfl
          have hD9 := hD.sub (ws' := [(zo7iirrrririii bl esg (nI ecl) eW eA eE eC (nI ecd2) aTp (nI ez) (nI ep2) (nI em2)), (zaI aTp cTp 100 fTp), (zaI eC ceC 100 feC2)]) [0, 1, 2] (by decide) rfl
          have hK9 := hK.sub (tys' := [(cTp, .int), (ceC, .int)]) [0, 1] rfl
          exact W.zret (v := 1) hx hb hr rfl (fun tQ htQ hWQ => ⟨⟨1, (ecd2, ep2, em2, feC2), rfl, Or.inl ⟨rfl, L1, hE9.trans (ps_end (fun z => by have := gX.2.1 ep2 (by omega); omega)), by omega, by omega, by omega, by (try simp only [List.length_append, List.length_cons, List.length_nil]); omega, hX2, zC2⟩, by rw [htQ]; exact hP9, va_K.moved hWQ.alike hK9, hD9⟩, hS.F htQ⟩) hS.2.2 dX5_readBoth_52
        · skip
          have c_16 : ¬ ez ≤ i := fun q => c_16 ((nI_leI (a := ez) (b := i) (by omega) (by omega)).mpr q)
          refine lv_aload_n hx hb dX5_readBoth_20 rfl (lv_at hl 0 rfl) ?_
          refine lv_bipush (v := 38) hx hb dX5_readBoth_21 (by decide) ?_
          have hPc := hP.sub (ws' := [(zo7iirrrririii bl esg (nI ecl) eW eA eE eC (nI ecd2) aTp (nI ez) (nI ep2) (nI em2)), (zaI aTp cTp 100 fTp)]) [0, 1] rfl
          have hDc := hD.sub (ws' := [(zo7iirrrririii bl esg (nI ecl) eW eA eE eC (nI ecd2) aTp (nI ez) (nI ep2) (nI em2)), (zaI aTp cTp 100 fTp)]) [0, 1] (by decide) rfl
          have hKc := hK.sub (tys' := [(cTp, .int)]) [0] rfl
          have hFc := va_free (wc := [(zo7iirrrririii bl esg (nI ecl) eW eA eE eC (nI ecd2) aTp (nI ez) (nI ep2) (nI em2)), (zaI aTp cTp 100 fTp)]) hD hS hA [0, 1] rfl
          refine va_calli (va_runV (As := [.int 38]) (rest := []) ⟨hx, hb, hml, hown, hts⟩ (c_xReadSign l dC dI bl aTp eW eA eE eC 38 ecl ecd2 esg cTp fTp ez ep2 em2 ss H.size (hez) (by omega) (by decide) (by decide) (gX)) (cwV 1 hts gX5_readBoth_X5_readSign rfl rfl rfl hd_yX5_readSign ⟨Nat.le_of_ble_eq_true rfl, Nat.le_of_ble_eq_true rfl⟩) ⟨fun a U g mk q => by obtain ⟨q0, q1, qP, qK, qD⟩ := q; exact ⟨q0, mvz g mk a q1, mvP g mk a qP, mvK g mk a qK, qD⟩, va_recv hK hP (ci := 7) (q := (RX5, TX5, 11)) (q0 := 0) rfl rfl, fun U hU hW => ⟨rfl, by rw [hU], by rw [hU]; exact hPc, va_K.moved hW.alike hKc, hDc.weaken (fun _ _ _ _ => trivial)⟩⟩ rfl rfl hl.1 rfl (lv_room (Nat.le_of_ble_eq_true rfl)) dX5_readBoth_23 ⟨Nat.le_of_ble_eq_true rfl, Nat.le_of_ble_eq_true rfl⟩) hS (fun q _ h => hFc q h) hFc (fun r_17 u tC H1 locs htC hvm hw_18 hB hz1 hk1 hS => ?_)
          obtain ⟨ep9_19, rfl⟩ : ∃ z, z = u := ⟨_, rfl⟩
          try dsimp only at hw_18 hB
          obtain ⟨hP1, hK1, hD1⟩ := hB
          rw [htC] at hP1
          have hK1 := va_K.moved hvm.symm hK1
          obtain ⟨hP, hD⟩ := va_join (wr := [(zaI eC ceC 100 feC2)]) (w1 := [(zo7iirrrririii bl esg (nI ecl) eW eA eE eC (nI ecd2) aTp (nI ez) (nI ep9_19) (nI em2)), (zaI aTp cTp 100 fTp)]) hP hD [0, 1] [2] rfl rfl (by decide) (by decide) hk1 hFc hP1 hD1
          have hK := (hK.sub (tys' := [(ceC, .int)]) [1] rfl).app hK1
          generalize H1 = H at hP hS ⊢
          have hP : va_P (dC, dI) vwCl [(zaI eC ceC 100 feC2), (zo7iirrrririii bl esg (nI ecl) eW eA eE eC (nI ecd2) aTp (nI ez) (nI ep9_19) (nI em2)), (zaI aTp cTp 100 fTp)] H := hP
          have hD : va_D A [(zaI eC ceC 100 feC2), (zo7iirrrririii bl esg (nI ecl) eW eA eE eC (nI ecd2) aTp (nI ez) (nI ep9_19) (nI em2)), (zaI aTp cTp 100 fTp)] := hD
          have hK : va_K (dC, dI) vwCl [(ceC, .int), (cTp, .int)] s := hK
          rcases hw_18 with ⟨rfl, hy9, h_20, e_21⟩ | ⟨rfl, hn9, e_21⟩
          · skip
            obtain rfl := (e_21).symm
            obtain ⟨m2, rfl⟩ : ∃ q : Nat, m1 = q + 1 := ⟨m1 - 1, by omega⟩
            refine lv_if_eq (tgt := 51) hx hb dX5_readBoth_26 (by decide) (fun c_22 => absurd c_22 (by decide)) (fun _ => ?_)
            refine lv_aload_n hx hb dX5_readBoth_29 rfl (lv_at hl 0 rfl) ?_
            refine lv_iload_n hx hb dX5_readBoth_30 rfl (lv_at hl 1 rfl) ?_
            have hPc := hP.sub (ws' := [(zo7iirrrririii bl esg (nI ecl) eW eA eE eC (nI ecd2) aTp (nI ez) (nI (ep2 + 1)) (nI em2)), (zaI aTp cTp 100 fTp), (zaI eC ceC 100 feC2)]) [1, 2, 0] rfl
            have hDc := hD.sub (ws' := [(zo7iirrrririii bl esg (nI ecl) eW eA eE eC (nI ecd2) aTp (nI ez) (nI (ep2 + 1)) (nI em2)), (zaI aTp cTp 100 fTp), (zaI eC ceC 100 feC2)]) [1, 2, 0] (by decide) rfl
            have hKc := hK.sub (tys' := [(cTp, .int), (ceC, .int)]) [1, 0] rfl
            have hFc := va_free (wc := [(zo7iirrrririii bl esg (nI ecl) eW eA eE eC (nI ecd2) aTp (nI ez) (nI (ep2 + 1)) (nI em2)), (zaI aTp cTp 100 fTp), (zaI eC ceC 100 feC2)]) hD hS hA [1, 2, 0] rfl
            refine va_calli (va_runV (As := [.int 1]) (rest := []) ⟨hx, hb, hml, hown, hts⟩ (c_xPlain1 l dC dI sK sV bl aTp eW eA eE eC ecl ecd2 esg cTp ceC fTp feC2 ez (ep2 + 1) em2 ss (kt ++ L1) H.size (hez) (by omega) (by omega) ((hX2).mono (by omega)) (zC2) (gX)) (cwV 1 hts gX5_readBoth_X5_readPlain rfl rfl rfl hd_yX5_readPlain ⟨Nat.le_of_ble_eq_true rfl, Nat.le_of_ble_eq_true rfl⟩) ⟨fun a U g mk q => by obtain ⟨q0, q1, qP, qK, qD, qhE⟩ := q; exact ⟨q0, mvz g mk a q1, mvP g mk a qP, mvK g mk a qK, qD, qhE.mv g mk a⟩, va_recv hK hP (ci := 7) (q := (RX5, TX5, 11)) (q0 := 1) rfl rfl, fun U hU hW => ⟨rfl, by rw [hU], by rw [hU]; exact hPc, va_K.moved hW.alike hKc, hDc.weaken (fun _ _ _ _ => trivial), hE.call hS hU hW (fun q h => hFc q h)⟩⟩ rfl rfl hl.1 rfl (lv_room (Nat.le_of_ble_eq_true rfl)) dX5_readBoth_31 ⟨Nat.le_of_ble_eq_true rfl, Nat.le_of_ble_eq_true rfl⟩) hS (fun q _ h => hFc q h) hFc (fun r_23 u tC H1 locs htC hvm hw_24 hB hz1 hk1 hS => ?_)
            obtain ⟨ecd9_25, ep9_26, em9_27, feC9_28⟩ := u
            try dsimp only at hw_24 hB
            obtain ⟨hP1, hK1, hD1⟩ := hB
            rw [htC] at hP1
            have hK1 := va_K.moved hvm.symm hK1
            obtain ⟨hP, hD⟩ := va_join (wr := []) (w1 := [(zo7iirrrririii bl esg (nI ecl) eW eA eE eC (nI ecd9_25) aTp (nI ez) (nI ep9_26) (nI em9_27)), (zaI aTp cTp 100 fTp), (zaI eC ceC 100 feC9_28)]) hP hD [1, 2, 0] [] rfl rfl (by decide) (by decide) hk1 hFc hP1 hD1
            have hK := (hK.sub (tys' := []) [] rfl).app hK1
            generalize H1 = H at hP hS ⊢
            have hP : va_P (dC, dI) vwCl [(zo7iirrrririii bl esg (nI ecl) eW eA eE eC (nI ecd9_25) aTp (nI ez) (nI ep9_26) (nI em9_27)), (zaI aTp cTp 100 fTp), (zaI eC ceC 100 feC9_28)] H := hP
            have hD : va_D A [(zo7iirrrririii bl esg (nI ecl) eW eA eE eC (nI ecd9_25) aTp (nI ez) (nI ep9_26) (nI em9_27)), (zaI aTp cTp 100 fTp), (zaI eC ceC 100 feC9_28)] := hD
            have hK : va_K (dC, dI) vwCl [(cTp, .int), (ceC, .int)] s := hK
            rcases hw_24 with ⟨rfl, L_29, eP_30, h_31, h_32, h_33, h_34, hX_36, hC_35⟩ | ⟨rfl, eP_30, h_31, h_32, h_33, hC_35⟩
            · skip
              refine lv_if_ne (tgt := 39) hx hb dX5_readBoth_34 (by decide) (fun _ => ?_) (fun c_37 => absurd c_37 (by decide))
              refine lv_aload_n hx hb dX5_readBoth_39 rfl (lv_at hl 0 rfl) ?_
              refine lv_bipush (v := (-2)) hx hb dX5_readBoth_40 (by decide) ?_
              have hPc := hP.sub (ws' := [(zo7iirrrririii bl esg (nI ecl) eW eA eE eC (nI ecd9_25) aTp (nI ez) (nI ep9_26) (nI em9_27)), (zaI eC ceC 100 feC9_28)]) [0, 2] rfl
              have hDc := hD.sub (ws' := [(zo7iirrrririii bl esg (nI ecl) eW eA eE eC (nI ecd9_25) aTp (nI ez) (nI ep9_26) (nI em9_27)), (zaI eC ceC 100 feC9_28)]) [0, 2] (by decide) rfl
              have hKc := hK.sub (tys' := [(ceC, .int)]) [1] rfl
              have hFc := va_free (wc := [(zo7iirrrririii bl esg (nI ecl) eW eA eE eC (nI ecd9_25) aTp (nI ez) (nI ep9_26) (nI em9_27)), (zaI eC ceC 100 feC9_28)]) hD hS hA [0, 2] rfl
              refine va_callv (va_runV (As := [.int (-2)]) (rest := []) ⟨hx, hb, hml, hown, hts⟩ (c_xCode l dC dI bl aTp eW eA eE eC ecl ecd9_25 (-2) esg ceC feC9_28 ez ep9_26 em9_27 ((kt ++ L1) ++ L_29) 1802 H.size ((hX_36).mono (by omega)) (by have h6 := (hX_36).1; have h7 := (hX_36).2.1; have h8 := hXT.1; have h9 := hXT.2.1; (try simp only [List.length_append] at h6); omega) (hC_35) (Or.inr (Or.inl rfl)) (by decide)) (cwV 1 hts gX5_readBoth_X5_code rfl rfl rfl hd_yX5_code ⟨Nat.le_of_ble_eq_true rfl, Nat.le_of_ble_eq_true rfl⟩) ⟨fun a U g mk q => by obtain ⟨q0, q1, qP, qK, qD⟩ := q; exact ⟨q0, mvz g mk a q1, mvP g mk a qP, mvK g mk a qK, qD⟩, va_recv hK hP (ci := 7) (q := (RX5, TX5, 11)) (q0 := 0) rfl rfl, fun U hU hW => ⟨rfl, by rw [hU], by rw [hU]; exact hPc, va_K.moved hW.alike hKc, hDc.weaken (fun _ _ _ _ => trivial)⟩⟩ rfl rfl hl.1 rfl (lv_room (Nat.le_of_ble_eq_true rfl)) dX5_readBoth_42 ⟨Nat.le_of_ble_eq_true rfl, Nat.le_of_ble_eq_true rfl⟩) hS (fun q _ h => hFc q h) hFc (fun u tC H1 locs htC hvm hw_39 hB hz1 hk1 hS => ?_)
              obtain ⟨ecd9_40, feC9_41⟩ := u
              try dsimp only at hw_39 hB
              obtain ⟨hP1, hK1, hD1⟩ := hB
              rw [htC] at hP1
              have hK1 := va_K.moved hvm.symm hK1
              obtain ⟨hP, hD⟩ := va_join (wr := [(zaI aTp cTp 100 fTp)]) (w1 := [(zo7iirrrririii bl esg (nI ecl) eW eA eE eC (nI ecd9_40) aTp (nI ez) (nI ep9_26) (nI em9_27)), (zaI eC ceC 100 feC9_41)]) hP hD [0, 2] [1] rfl rfl (by decide) (by decide) hk1 hFc hP1 hD1
              have hK := (hK.sub (tys' := [(cTp, .int)]) [0] rfl).app hK1
              generalize H1 = H at hP hS ⊢
              have hP : va_P (dC, dI) vwCl [(zaI aTp cTp 100 fTp), (zo7iirrrririii bl esg (nI ecl) eW eA eE eC (nI ecd9_40) aTp (nI ez) (nI ep9_26) (nI em9_27)), (zaI eC ceC 100 feC9_41)] H := hP
              have hD : va_D A [(zaI aTp cTp 100 fTp), (zo7iirrrririii bl esg (nI ecl) eW eA eE eC (nI ecd9_40) aTp (nI ez) (nI ep9_26) (nI em9_27)), (zaI eC ceC 100 feC9_41)] := hD
              have hK : va_K (dC, dI) vwCl [(cTp, .int), (ceC, .int)] s := hK
              obtain ⟨e_42, hC_43, h_44⟩ := hw_39
              obtain rfl := (e_42).symm
              have hX_45 : XT feC9_41 (ecd9_25 + 1) (((kt ++ L1) ++ L_29) ++ [1802]) (ep9_26) := ⟨by rw [List.length_append, (hX_36).1]; rfl, by have h6 := (hX_36).1; have h7 := (hX_36).2.1; have h8 := hXT.1; have h9 := hXT.2.1; (try simp only [List.length_append] at h6); omega, h_44⟩
              refine lv_iinc (v := nI (i + 1)) (lv' := [(2, .int (nI (i + 1))), (0, .ref bl), (1, .int 1)]) hx hb dX5_readBoth_45 hl (k := 2) rfl (nI_add i 1) (by decide) rfl (fun ls hl => ?_)
              refine lv_goto (tgt := 12) hx hb dX5_readBoth_48 (by decide) ?_
              exact ih12 (i + 1) _ _ _ _ (L1 ++ (L_29 ++ [1802])) (m2) (by omega) (by omega) (⟨hE9.trans (ps_go hy9 eP_30), by omega⟩) (by omega) (by simp only [List.length_append, List.length_cons, List.length_nil]; omega) (XT.as (XT.as (hX_45))) (hC_43) _ _ (hK.sub [0, 1] rfl) (hP.sub [1, 0, 2] rfl) (hD.sub [1, 0, 2] (by decide) rfl) hS ls (lv_sub hl [1, 2, 0] rfl)
            · skip
              refine lv_if_ne (tgt := 39) hx hb dX5_readBoth_34 (by decide) (fun c_46 => absurd c_46 (by decide)) (fun _ => ?_)
              refine lv_iconst (v := 0) hx hb dX5_readBoth_37 (by decide) ?_
              rw [hQ]
              have hP9 := hP.sub (ws' := [(zo7iirrrririii bl esg (nI ecl) eW eA eE eC (nI ecd9_25) aTp (nI ez) (nI ep9_26) (nI em9_27)), (zaI aTp cTp 100 fTp), (zaI eC ceC 100 feC9_28)]) [0, 1, 2] rfl
              have hD9 := hD.sub (ws' := [(zo7iirrrririii bl esg (nI ecl) eW eA eE eC (nI ecd9_25) aTp (nI ez) (nI ep9_26) (nI em9_27)), (zaI aTp cTp 100 fTp), (zaI eC ceC 100 feC9_28)]) [0, 1, 2] (by decide) rfl
              have hK9 := hK.sub (tys' := [(cTp, .int), (ceC, .int)]) [0, 1] rfl
              exact W.zret (v := 0) hx hb hr rfl (fun tQ htQ hWQ => ⟨⟨0, (ecd9_25, ep9_26, em9_27, feC9_28), rfl, Or.inr ⟨rfl, hE9.trans (ps_bad hy9 eP_30), by omega, by omega, by first | omega | (have := (hXT).2.1; omega), hC_35⟩, by rw [htQ]; exact hP9, va_K.moved hWQ.alike hK9, hD9⟩, hS.F htQ⟩) hS.2.2 dX5_readBoth_38
          · skip
            obtain rfl := (e_21).symm
            refine lv_if_eq (tgt := 51) hx hb dX5_readBoth_26 (by decide) (fun _ => ?_) (fun c_47 => absurd c_47 (by decide))
            refine lv_iconst (v := 1) hx hb dX5_readBoth_51 (by decide) ?_
            rw [hQ]
            have hP9 := hP.sub (ws' := [(zo7iirrrririii bl esg (nI ecl) eW eA eE eC (nI ecd2) aTp (nI ez) (nI ep2) (nI em2)), (zaI aTp cTp 100 fTp), (zaI eC ceC 100 feC2)]) [1, 2, 0] rfl
            have hD9 := hD.sub (ws' := [(zo7iirrrririii bl esg (nI ecl) eW eA eE eC (nI ecd2) aTp (nI ez) (nI ep2) (nI em2)), (zaI aTp cTp 100 fTp), (zaI eC ceC 100 feC2)]) [1, 2, 0] (by decide) rfl
            have hK9 := hK.sub (tys' := [(cTp, .int), (ceC, .int)]) [1, 0] rfl
            exact W.zret (v := 1) hx hb hr rfl (fun tQ htQ hWQ => ⟨⟨1, (ecd2, ep2, em2, feC2), rfl, Or.inl ⟨rfl, L1, hE9.trans (ps_end hn9), by omega, by omega, by omega, by (try simp only [List.length_append, List.length_cons, List.length_nil]); omega, hX2, zC2⟩, by rw [htQ]; exact hP9, va_K.moved hWQ.alike hK9, hD9⟩, hS.F htQ⟩) hS.2.2 dX5_readBoth_52
    exact L12 _ (0) _ _ _ _ (L_7) (101) (Nat.lt_succ_self _) (by omega) (⟨pEv_s eP_8, by omega⟩) (by omega) (by omega) (hX_14) (hC_13) _ _ (hK.sub [0, 1] rfl) (hP.sub [0, 1, 2] rfl) (hD.sub [0, 1, 2] (by decide) rfl) hS ls (lv_sub hl [1, 2, 0] rfl)
  · skip
    refine lv_if_ne (tgt := 10) hx hb dX5_readBoth_5 (by decide) (fun c_48 => absurd c_48 (by decide)) (fun _ => ?_)
    refine lv_iconst (v := 0) hx hb dX5_readBoth_8 (by decide) ?_
    rw [hQ]
    have hP9 := hP.sub (ws' := [(zo7iirrrririii bl esg (nI ecl) eW eA eE eC (nI ecd9_3) aTp (nI ez) (nI ep9_4) (nI em9_5)), (zaI aTp cTp 100 fTp), (zaI eC ceC 100 feC9_6)]) [0, 1, 2] rfl
    have hD9 := hD.sub (ws' := [(zo7iirrrririii bl esg (nI ecl) eW eA eE eC (nI ecd9_3) aTp (nI ez) (nI ep9_4) (nI em9_5)), (zaI aTp cTp 100 fTp), (zaI eC ceC 100 feC9_6)]) [0, 1, 2] (by decide) rfl
    have hK9 := hK.sub (tys' := [(cTp, .int), (ceC, .int)]) [0, 1] rfl
    exact W.zret (v := 0) hx hb hr rfl (fun tQ htQ hWQ => ⟨⟨0, (ecd9_3, ep9_4, em9_5, feC9_6), rfl, Or.inr ⟨rfl, pEv_n eP_8, by omega, by omega, by first | omega | (have := (hXT).2.1; omega), hC_13⟩, by rw [htQ]; exact hP9, va_K.moved hWQ.alike hK9, hD9⟩, hS.F htQ⟩) hS.2.2 dX5_readBoth_9

theorem kc_xEither1_0 : ∀ w ∈ wsX50, w ∈ wsX5_readEither := fun w h => List.mem_cons_of_mem _ (gin_wsX50 w h)
theorem kc_xEither1_1 : (.fieldLink RX5 31 "MistHeaps$Hill" "size" "I" : Cond) ∈ wsX5_readEither := kc_of 123 rfl rfl rfl
set_option maxHeartbeats 4000000 in
set_option maxRecDepth 100000 in
theorem c_xEither1 (l : Launch) (dC : Nat → ClassId) (dI : Nat → Nat → Nat) (sK sV : Nat → Nat) (bl : Nat) (aTp : Nat) (eW : Nat) (eA : Nat) (eE : Nat) (eC : Nat) (ecl : Nat) (ecd : Nat) (esg : Int32) (cTp : ClassId) (ceC : ClassId) (fTp : Nat → Int32) (feC : Nat → Int32) (ez : Nat) (ep : Nat) (em : Nat) (ss : Nat → Nat) (kt : List Nat) (sz : Nat) (hez : ez ≤ 100) (hep : ep ≤ ez) (hem : em ≤ 99) (hXT : XT feC ecd kt ep) (zeC : ∀ k0, k0 < 100 → okC (feC k0)) (gX : TX fTp ez ss) : Met l yX5_readEither wsX5_readEither ({ frames := 19, cells := 0, slots := 0, locals := 421 } : Room) (va_Pc [.ref bl, .int 1] (fun U => U.heap.size = sz ∧ va_P (dC, dI) vwCl [(zo7iirrrririii bl esg (nI ecl) eW eA eE eC (nI ecd) aTp (nI ez) (nI ep) (nI em)), (zaI aTp cTp 100 fTp), (zaI eC ceC 100 feC)] U.heap ∧ va_K (dC, dI) vwCl [(cTp, .int), (ceC, .int)] U ∧ va_D (fun _ => True) [(zo7iirrrririii bl esg (nI ecl) eW eA eE eC (nI ecd) aTp (nI ez) (nI ep) (nI em)), (zaI aTp cTp 100 fTp), (zaI eC ceC 100 feC)] ∧ Gs sK sV (va_A [(zo7iirrrririii bl esg (nI ecl) eW eA eE eC (nI ecd) aTp (nI ez) (nI ep) (nI em)), (zaI aTp cTp 100 fTp), (zaI eC ceC 100 feC)] sz) U)) (va_Qi (fun (r : Int32) (u : (Nat) × (Nat) × (Nat) × (Nat → Int32)) => match u with | (ecd9, ep9, em9, feC9) => (r = 1 ∧ ∃ L0 : List Nat, pSm ss (pFac ss 4) ep = (some L0, ep9) ∧ ep + 3 ≤ ep9 ∧ ep9 ≤ ez ∧ em9 ≤ 99 ∧ L0.length + ep ≤ ep9 ∧ XT feC9 ecd9 (kt ++ L0) ep9 ∧ ∀ k0, k0 < 100 → okC (feC9 k0)) ∨ (r = 0 ∧ pSm ss (pFac ss 4) ep = (none, ep9) ∧ ep9 ≤ ez + 2 ∧ em9 ≤ 99 ∧ ecd9 ≤ 100 ∧ ∀ k0, k0 < 100 → okC (feC9 k0))) (fun (u : (Nat) × (Nat) × (Nat) × (Nat → Int32)) (t : State) => match u with | (ecd9, ep9, em9, feC9) => va_P (dC, dI) vwCl [(zo7iirrrririii bl esg (nI ecl) eW eA eE eC (nI ecd9) aTp (nI ez) (nI ep9) (nI em9)), (zaI aTp cTp 100 fTp), (zaI eC ceC 100 feC9)] t.heap ∧ va_K (dC, dI) vwCl [(cTp, .int), (ceC, .int)] t ∧ va_D (va_A [(zo7iirrrririii bl esg (nI ecl) eW eA eE eC (nI ecd) aTp (nI ez) (nI ep) (nI em)), (zaI aTp cTp 100 fTp), (zaI eC ceC 100 feC)] sz) [(zo7iirrrririii bl esg (nI ecl) eW eA eE eC (nI ecd9) aTp (nI ez) (nI ep9) (nI em9)), (zaI aTp cTp 100 fTp), (zaI eC ceC 100 feC9)]) (va_A [(zo7iirrrririii bl esg (nI ecl) eW eA eE eC (nI ecd) aTp (nI ez) (nI ep) (nI em)), (zaI aTp cTp 100 fTp), (zaI eC ceC 100 feC)] sz)) 0 0 (va_A [(zo7iirrrririii bl esg (nI ecl) eW eA eE eC (nI ecd) aTp (nI ez) (nI ep) (nI em)), (zaI aTp cTp 100 fTp), (zaI eC ceC 100 feC)] sz) := by
  refine met_ofQ (cc := cX5_readEither) (maxL := 3) (ret := (some .boolean)) (by decide) rfl ?_
  intro p e s m args below meth c s₁ Q B hml hv hQ
  obtain ⟨rfl, hsz, hP, hK, hD0, hE⟩ := hv
  have hx := B.exec
  have hb := B.bytes
  have hr := B.returns
  have hts := atoms_spec (ws := wsX5_readEither) B.pre
  have hown : s.vm.findClass RX5 = some m.cls := findClass_of_methodNamed B.named
  have hlocks := B.notSynchronized
  subst hsz
  have hD := hD0.self (sz := s.heap.size)
  generalize hAe : va_A [(zo7iirrrririii bl esg (nI ecl) eW eA eE eC (nI ecd) aTp (nI ez) (nI ep) (nI em)), (zaI aTp cTp 100 fTp), (zaI eC ceC 100 feC)] s.heap.size = A at hD hQ hE ⊢
  have hA : ∀ q : Nat, s.heap.size ≤ q → A q := fun q h => by rw [← hAe]; exact Or.inr h
  have hS : va_S A s.heap s.heap [] := va_S.rf
  have hl := lv_entry [.ref bl, .int 1] (n := 3) (Nat.le_of_ble_eq_true rfl)
  rw [lg_entry_eq]
  generalize (lg_sl [.ref bl, .int 1] ++ List.replicate (3 - (lg_sl [.ref bl, .int 1]).length) Slot.unset).toArray = ls at hl ⊢
  generalize hag : ([.ref bl, .int 1] : List Value).toArray = args at hts hQ ⊢
  have hl : lv_has ls 3 [(0, .ref bl), (1, .int 1)] := hl
  obtain ⟨H, hH⟩ : ∃ H : Heap, H = s.heap := ⟨_, rfl⟩
  rw [← hH] at hP
  rw [← hH]
  have hS : va_S A s.heap H [] := by rw [hH]; exact hS
  obtain ⟨locs, hlo⟩ : ∃ L : List Loc, L = [] := ⟨_, rfl⟩
  rw [← hlo] at hS
  rw [← hlo]
  clear hH hlo
  refine lv_aload_n hx hb dX5_readEither_0 rfl (lv_at hl 0 rfl) ?_
  refine lv_iload_n hx hb dX5_readEither_1 rfl (lv_at hl 1 rfl) ?_
  have hPc := hP.sub (ws' := [(zo7iirrrririii bl esg (nI ecl) eW eA eE eC (nI ecd) aTp (nI ez) (nI ep) (nI em)), (zaI aTp cTp 100 fTp), (zaI eC ceC 100 feC)]) [0, 1, 2] rfl
  have hDc := hD.sub (ws' := [(zo7iirrrririii bl esg (nI ecl) eW eA eE eC (nI ecd) aTp (nI ez) (nI ep) (nI em)), (zaI aTp cTp 100 fTp), (zaI eC ceC 100 feC)]) [0, 1, 2] (by decide) rfl
  have hKc := hK.sub (tys' := [(cTp, .int), (ceC, .int)]) [0, 1] rfl
  have hFc := va_free (wc := [(zo7iirrrririii bl esg (nI ecl) eW eA eE eC (nI ecd) aTp (nI ez) (nI ep) (nI em)), (zaI aTp cTp 100 fTp), (zaI eC ceC 100 feC)]) hD hS hA [0, 1, 2] rfl
  refine va_calli (va_runV (As := [.int 1]) (rest := []) ⟨hx, hb, hml, hown, hts⟩ (c_xBoth1 l dC dI sK sV bl aTp eW eA eE eC ecl ecd esg cTp ceC fTp feC ez ep em ss kt H.size (hez) (by omega) (by omega) ((hXT).mono (by omega)) (zeC) (gX)) (cwV 1 hts gX5_readEither_X5_readBoth rfl rfl rfl hd_yX5_readBoth ⟨Nat.le_of_ble_eq_true rfl, Nat.le_of_ble_eq_true rfl⟩) ⟨fun a U g mk q => by obtain ⟨q0, q1, qP, qK, qD, qhE⟩ := q; exact ⟨q0, mvz g mk a q1, mvP g mk a qP, mvK g mk a qK, qD, qhE.mv g mk a⟩, va_recv hK hP (ci := 7) (q := (RX5, TX5, 11)) (q0 := 0) rfl rfl, fun U hU hW => ⟨rfl, by rw [hU], by rw [hU]; exact hPc, va_K.moved hW.alike hKc, hDc.weaken (fun _ _ _ _ => trivial), hE.call hS hU hW (fun q h => hFc q h)⟩⟩ rfl rfl hl.1 rfl (lv_room (Nat.le_of_ble_eq_true rfl)) dX5_readEither_2 ⟨Nat.le_of_ble_eq_true rfl, Nat.le_of_ble_eq_true rfl⟩) hS (fun q _ h => hFc q h) hFc (fun r_1 u tC H1 locs htC hvm hw_2 hB hz1 hk1 hS => ?_)
  obtain ⟨ecd9_3, ep9_4, em9_5, feC9_6⟩ := u
  try dsimp only at hw_2 hB
  obtain ⟨hP1, hK1, hD1⟩ := hB
  rw [htC] at hP1
  have hK1 := va_K.moved hvm.symm hK1
  obtain ⟨hP, hD⟩ := va_join (wr := []) (w1 := [(zo7iirrrririii bl esg (nI ecl) eW eA eE eC (nI ecd9_3) aTp (nI ez) (nI ep9_4) (nI em9_5)), (zaI aTp cTp 100 fTp), (zaI eC ceC 100 feC9_6)]) hP hD [0, 1, 2] [] rfl rfl (by decide) (by decide) hk1 hFc hP1 hD1
  have hK := (hK.sub (tys' := []) [] rfl).app hK1
  generalize H1 = H at hP hS ⊢
  have hP : va_P (dC, dI) vwCl [(zo7iirrrririii bl esg (nI ecl) eW eA eE eC (nI ecd9_3) aTp (nI ez) (nI ep9_4) (nI em9_5)), (zaI aTp cTp 100 fTp), (zaI eC ceC 100 feC9_6)] H := hP
  have hD : va_D A [(zo7iirrrririii bl esg (nI ecl) eW eA eE eC (nI ecd9_3) aTp (nI ez) (nI ep9_4) (nI em9_5)), (zaI aTp cTp 100 fTp), (zaI eC ceC 100 feC9_6)] := hD
  have hK : va_K (dC, dI) vwCl [(cTp, .int), (ceC, .int)] s := hK
  rcases hw_2 with ⟨rfl, L_7, eP_8, h_9, h_10, h_11, h_12, hX_14, hC_13⟩ | ⟨rfl, eP_8, h_9, h_10, h_11, hC_13⟩
  · skip
    refine lv_if_ne (tgt := 10) hx hb dX5_readEither_5 (by decide) (fun _ => ?_) (fun c_15 => absurd c_15 (by decide))
    refine lv_iconst (v := 0) hx hb dX5_readEither_10 (by decide) ?_
    refine lv_istore_n (lv' := [(2, .int 0), (0, .ref bl), (1, .int 1)]) hx hb dX5_readEither_11 rfl hl (by decide) rfl (fun ls hl => ?_)
    have L12 : ∀ (nF : Nat) (i : Nat) (ecd2 : Nat) (ep2 : Nat) (em2 : Nat) (feC2 : Nat → Int32) (L1 : List Nat) (m1 : Nat), ez - i < nF → (i ≤ ez) → (pSm ss (pFac ss 4) ep = pSep ss 124 1803 (pEv ss (pFac ss 4)) m1 (some L1, ep2) ∧ 101 ≤ m1 + ep2) → (ep + 3 + 2 * i ≤ ep2 ∧ ep2 ≤ ez ∧ em2 ≤ 99) → (L1.length + ep ≤ ep2) → (XT feC2 ecd2 (kt ++ L1) ep2) → (∀ k0, k0 < 100 → okC (feC2 k0)) → ∀ (H : Heap) (locs : List Loc), va_K (dC, dI) vwCl [(cTp, .int), (ceC, .int)] s → va_P (dC, dI) vwCl [(zo7iirrrririii bl esg (nI ecl) eW eA eE eC (nI ecd2) aTp (nI ez) (nI ep2) (nI em2)), (zaI aTp cTp 100 fTp), (zaI eC ceC 100 feC2)] H → va_D A [(zo7iirrrririii bl esg (nI ecl) eW eA eE eC (nI ecd2) aTp (nI ez) (nI ep2) (nI em2)), (zaI aTp cTp 100 fTp), (zaI eC ceC 100 feC2)] → va_S A s.heap H locs → ∀ (ls : Array Slot), lv_has ls 3 [(0, .ref bl), (1, .int 1), (2, .int (nI i))] → W p l e ({ frames := 19, cells := 0, slots := 0, locals := 421 } : Room) s m args below meth c H locs 0 0 Q (F0 m 12 ls []) := by
      intro nF
      induction nF with
      | zero => intro i ecd2 ep2 em2 feC2 L1 m1 hm; exact absurd hm (Nat.not_lt_zero _)
      | succ nF ih12 =>
        intro i ecd2 ep2 em2 feC2 L1 m1 hm hii hE9 hp2 hL2 hX2 zC2 H locs hK hP hD hS ls hl
        obtain ⟨hE9, hm9⟩ := hE9
        obtain ⟨hp2a, hp2b, hp2c⟩ := hp2
        refine lv_iload_n hx hb dX5_readEither_12 rfl (lv_at hl 2 rfl) ?_
        refine lv_aload_n hx hb dX5_readEither_13 rfl (lv_at hl 0 rfl) ?_
        refine va_get (D := (dC, dI)) (ci := 7) (v := .int (nI ez)) (C := RX5) (T := TX5) (N := 11) hx hb hts kc_xEither1_0 hown hK hP 0 rfl rfl 8 (by decide) (hts (.fieldLink RX5 31 "MistHeaps$Hill" "size" "I") kc_xEither1_1) (fun _ h9 => h9) rfl dX5_readEither_14 ?_
        refine lv_icmp_ge (tgt := 51) hx hb dX5_readEither_17 (by decide) (fun c_16 => ?_) (fun c_16 => ?_)
        · skip
          have c_16 : ez ≤ i := (nI_leI (a := ez) (b := i) (by omega) (by omega)).mp c_16
          refine lv_iconst (v := 1) hx hb dX5_readEither_51 (by decide) ?_
          rw [hQ]
          have hP9 := hP.sub (ws' := [(zo7iirrrririii bl esg (nI ecl) eW eA eE eC (nI ecd2) aTp (nI ez) (nI ep2) (nI em2)), (zaI aTp cTp 100 fTp), (zaI eC ceC 100 feC2)]) [0, 1, 2] rfl
          have hD9 := hD.sub (ws' := [(zo7iirrrririii bl esg (nI ecl) eW eA eE eC (nI ecd2) aTp (nI ez) (nI ep2) (nI em2)), (zaI aTp cTp 100 fTp), (zaI eC ceC 100 feC2)]) [0, 1, 2] (by decide) rfl
          have hK9 := hK.sub (tys' := [(cTp, .int), (ceC, .int)]) [0, 1] rfl
          exact W.zret (v := 1) hx hb hr rfl (fun tQ htQ hWQ => ⟨⟨1, (ecd2, ep2, em2, feC2), rfl, Or.inl ⟨rfl, L1, hE9.trans (ps_end (fun z => by have := gX.2.1 ep2 (by omega); omega)), by omega, by omega, by omega, by (try simp only [List.length_append, List.length_cons, List.length_nil]); omega, hX2, zC2⟩, by rw [htQ]; exact hP9, va_K.moved hWQ.alike hK9, hD9⟩, hS.F htQ⟩) hS.2.2 dX5_readEither_52
        · skip
          have c_16 : ¬ ez ≤ i := fun q => c_16 ((nI_leI (a := ez) (b := i) (by omega) (by omega)).mpr q)
          refine lv_aload_n hx hb dX5_readEither_20 rfl (lv_at hl 0 rfl) ?_
          refine lv_bipush (v := 124) hx hb dX5_readEither_21 (by decide) ?_
          have hPc := hP.sub (ws' := [(zo7iirrrririii bl esg (nI ecl) eW eA eE eC (nI ecd2) aTp (nI ez) (nI ep2) (nI em2)), (zaI aTp cTp 100 fTp)]) [0, 1] rfl
          have hDc := hD.sub (ws' := [(zo7iirrrririii bl esg (nI ecl) eW eA eE eC (nI ecd2) aTp (nI ez) (nI ep2) (nI em2)), (zaI aTp cTp 100 fTp)]) [0, 1] (by decide) rfl
          have hKc := hK.sub (tys' := [(cTp, .int)]) [0] rfl
          have hFc := va_free (wc := [(zo7iirrrririii bl esg (nI ecl) eW eA eE eC (nI ecd2) aTp (nI ez) (nI ep2) (nI em2)), (zaI aTp cTp 100 fTp)]) hD hS hA [0, 1] rfl
          refine va_calli (va_runV (As := [.int 124]) (rest := []) ⟨hx, hb, hml, hown, hts⟩ (c_xReadSign l dC dI bl aTp eW eA eE eC 124 ecl ecd2 esg cTp fTp ez ep2 em2 ss H.size (hez) (by omega) (by decide) (by decide) (gX)) (cwV 1 hts gX5_readEither_X5_readSign rfl rfl rfl hd_yX5_readSign ⟨Nat.le_of_ble_eq_true rfl, Nat.le_of_ble_eq_true rfl⟩) ⟨fun a U g mk q => by obtain ⟨q0, q1, qP, qK, qD⟩ := q; exact ⟨q0, mvz g mk a q1, mvP g mk a qP, mvK g mk a qK, qD⟩, va_recv hK hP (ci := 7) (q := (RX5, TX5, 11)) (q0 := 0) rfl rfl, fun U hU hW => ⟨rfl, by rw [hU], by rw [hU]; exact hPc, va_K.moved hW.alike hKc, hDc.weaken (fun _ _ _ _ => trivial)⟩⟩ rfl rfl hl.1 rfl (lv_room (Nat.le_of_ble_eq_true rfl)) dX5_readEither_23 ⟨Nat.le_of_ble_eq_true rfl, Nat.le_of_ble_eq_true rfl⟩) hS (fun q _ h => hFc q h) hFc (fun r_17 u tC H1 locs htC hvm hw_18 hB hz1 hk1 hS => ?_)
          obtain ⟨ep9_19, rfl⟩ : ∃ z, z = u := ⟨_, rfl⟩
          try dsimp only at hw_18 hB
          obtain ⟨hP1, hK1, hD1⟩ := hB
          rw [htC] at hP1
          have hK1 := va_K.moved hvm.symm hK1
          obtain ⟨hP, hD⟩ := va_join (wr := [(zaI eC ceC 100 feC2)]) (w1 := [(zo7iirrrririii bl esg (nI ecl) eW eA eE eC (nI ecd2) aTp (nI ez) (nI ep9_19) (nI em2)), (zaI aTp cTp 100 fTp)]) hP hD [0, 1] [2] rfl rfl (by decide) (by decide) hk1 hFc hP1 hD1
          have hK := (hK.sub (tys' := [(ceC, .int)]) [1] rfl).app hK1
          generalize H1 = H at hP hS ⊢
          have hP : va_P (dC, dI) vwCl [(zaI eC ceC 100 feC2), (zo7iirrrririii bl esg (nI ecl) eW eA eE eC (nI ecd2) aTp (nI ez) (nI ep9_19) (nI em2)), (zaI aTp cTp 100 fTp)] H := hP
          have hD : va_D A [(zaI eC ceC 100 feC2), (zo7iirrrririii bl esg (nI ecl) eW eA eE eC (nI ecd2) aTp (nI ez) (nI ep9_19) (nI em2)), (zaI aTp cTp 100 fTp)] := hD
          have hK : va_K (dC, dI) vwCl [(ceC, .int), (cTp, .int)] s := hK
          rcases hw_18 with ⟨rfl, hy9, h_20, e_21⟩ | ⟨rfl, hn9, e_21⟩
          · skip
            obtain rfl := (e_21).symm
            obtain ⟨m2, rfl⟩ : ∃ q : Nat, m1 = q + 1 := ⟨m1 - 1, by omega⟩
            refine lv_if_eq (tgt := 51) hx hb dX5_readEither_26 (by decide) (fun c_22 => absurd c_22 (by decide)) (fun _ => ?_)
            refine lv_aload_n hx hb dX5_readEither_29 rfl (lv_at hl 0 rfl) ?_
            refine lv_iload_n hx hb dX5_readEither_30 rfl (lv_at hl 1 rfl) ?_
            have hPc := hP.sub (ws' := [(zo7iirrrririii bl esg (nI ecl) eW eA eE eC (nI ecd2) aTp (nI ez) (nI (ep2 + 1)) (nI em2)), (zaI aTp cTp 100 fTp), (zaI eC ceC 100 feC2)]) [1, 2, 0] rfl
            have hDc := hD.sub (ws' := [(zo7iirrrririii bl esg (nI ecl) eW eA eE eC (nI ecd2) aTp (nI ez) (nI (ep2 + 1)) (nI em2)), (zaI aTp cTp 100 fTp), (zaI eC ceC 100 feC2)]) [1, 2, 0] (by decide) rfl
            have hKc := hK.sub (tys' := [(cTp, .int), (ceC, .int)]) [1, 0] rfl
            have hFc := va_free (wc := [(zo7iirrrririii bl esg (nI ecl) eW eA eE eC (nI ecd2) aTp (nI ez) (nI (ep2 + 1)) (nI em2)), (zaI aTp cTp 100 fTp), (zaI eC ceC 100 feC2)]) hD hS hA [1, 2, 0] rfl
            refine va_calli (va_runV (As := [.int 1]) (rest := []) ⟨hx, hb, hml, hown, hts⟩ (c_xBoth1 l dC dI sK sV bl aTp eW eA eE eC ecl ecd2 esg cTp ceC fTp feC2 ez (ep2 + 1) em2 ss (kt ++ L1) H.size (hez) (by omega) (by omega) ((hX2).mono (by omega)) (zC2) (gX)) (cwV 1 hts gX5_readEither_X5_readBoth rfl rfl rfl hd_yX5_readBoth ⟨Nat.le_of_ble_eq_true rfl, Nat.le_of_ble_eq_true rfl⟩) ⟨fun a U g mk q => by obtain ⟨q0, q1, qP, qK, qD, qhE⟩ := q; exact ⟨q0, mvz g mk a q1, mvP g mk a qP, mvK g mk a qK, qD, qhE.mv g mk a⟩, va_recv hK hP (ci := 7) (q := (RX5, TX5, 11)) (q0 := 1) rfl rfl, fun U hU hW => ⟨rfl, by rw [hU], by rw [hU]; exact hPc, va_K.moved hW.alike hKc, hDc.weaken (fun _ _ _ _ => trivial), hE.call hS hU hW (fun q h => hFc q h)⟩⟩ rfl rfl hl.1 rfl (lv_room (Nat.le_of_ble_eq_true rfl)) dX5_readEither_31 ⟨Nat.le_of_ble_eq_true rfl, Nat.le_of_ble_eq_true rfl⟩) hS (fun q _ h => hFc q h) hFc (fun r_23 u tC H1 locs htC hvm hw_24 hB hz1 hk1 hS => ?_)
            obtain ⟨ecd9_25, ep9_26, em9_27, feC9_28⟩ := u
            try dsimp only at hw_24 hB
            obtain ⟨hP1, hK1, hD1⟩ := hB
            rw [htC] at hP1
            have hK1 := va_K.moved hvm.symm hK1
            obtain ⟨hP, hD⟩ := va_join (wr := []) (w1 := [(zo7iirrrririii bl esg (nI ecl) eW eA eE eC (nI ecd9_25) aTp (nI ez) (nI ep9_26) (nI em9_27)), (zaI aTp cTp 100 fTp), (zaI eC ceC 100 feC9_28)]) hP hD [1, 2, 0] [] rfl rfl (by decide) (by decide) hk1 hFc hP1 hD1
            have hK := (hK.sub (tys' := []) [] rfl).app hK1
            generalize H1 = H at hP hS ⊢
            have hP : va_P (dC, dI) vwCl [(zo7iirrrririii bl esg (nI ecl) eW eA eE eC (nI ecd9_25) aTp (nI ez) (nI ep9_26) (nI em9_27)), (zaI aTp cTp 100 fTp), (zaI eC ceC 100 feC9_28)] H := hP
            have hD : va_D A [(zo7iirrrririii bl esg (nI ecl) eW eA eE eC (nI ecd9_25) aTp (nI ez) (nI ep9_26) (nI em9_27)), (zaI aTp cTp 100 fTp), (zaI eC ceC 100 feC9_28)] := hD
            have hK : va_K (dC, dI) vwCl [(cTp, .int), (ceC, .int)] s := hK
            rcases hw_24 with ⟨rfl, L_29, eP_30, h_31, h_32, h_33, h_34, hX_36, hC_35⟩ | ⟨rfl, eP_30, h_31, h_32, h_33, hC_35⟩
            · skip
              refine lv_if_ne (tgt := 39) hx hb dX5_readEither_34 (by decide) (fun _ => ?_) (fun c_37 => absurd c_37 (by decide))
              refine lv_aload_n hx hb dX5_readEither_39 rfl (lv_at hl 0 rfl) ?_
              refine lv_bipush (v := (-3)) hx hb dX5_readEither_40 (by decide) ?_
              have hPc := hP.sub (ws' := [(zo7iirrrririii bl esg (nI ecl) eW eA eE eC (nI ecd9_25) aTp (nI ez) (nI ep9_26) (nI em9_27)), (zaI eC ceC 100 feC9_28)]) [0, 2] rfl
              have hDc := hD.sub (ws' := [(zo7iirrrririii bl esg (nI ecl) eW eA eE eC (nI ecd9_25) aTp (nI ez) (nI ep9_26) (nI em9_27)), (zaI eC ceC 100 feC9_28)]) [0, 2] (by decide) rfl
              have hKc := hK.sub (tys' := [(ceC, .int)]) [1] rfl
              have hFc := va_free (wc := [(zo7iirrrririii bl esg (nI ecl) eW eA eE eC (nI ecd9_25) aTp (nI ez) (nI ep9_26) (nI em9_27)), (zaI eC ceC 100 feC9_28)]) hD hS hA [0, 2] rfl
              refine va_callv (va_runV (As := [.int (-3)]) (rest := []) ⟨hx, hb, hml, hown, hts⟩ (c_xCode l dC dI bl aTp eW eA eE eC ecl ecd9_25 (-3) esg ceC feC9_28 ez ep9_26 em9_27 ((kt ++ L1) ++ L_29) 1803 H.size ((hX_36).mono (by omega)) (by have h6 := (hX_36).1; have h7 := (hX_36).2.1; have h8 := hXT.1; have h9 := hXT.2.1; (try simp only [List.length_append] at h6); omega) (hC_35) (Or.inr (Or.inr (Or.inl rfl))) (by decide)) (cwV 1 hts gX5_readEither_X5_code rfl rfl rfl hd_yX5_code ⟨Nat.le_of_ble_eq_true rfl, Nat.le_of_ble_eq_true rfl⟩) ⟨fun a U g mk q => by obtain ⟨q0, q1, qP, qK, qD⟩ := q; exact ⟨q0, mvz g mk a q1, mvP g mk a qP, mvK g mk a qK, qD⟩, va_recv hK hP (ci := 7) (q := (RX5, TX5, 11)) (q0 := 0) rfl rfl, fun U hU hW => ⟨rfl, by rw [hU], by rw [hU]; exact hPc, va_K.moved hW.alike hKc, hDc.weaken (fun _ _ _ _ => trivial)⟩⟩ rfl rfl hl.1 rfl (lv_room (Nat.le_of_ble_eq_true rfl)) dX5_readEither_42 ⟨Nat.le_of_ble_eq_true rfl, Nat.le_of_ble_eq_true rfl⟩) hS (fun q _ h => hFc q h) hFc (fun u tC H1 locs htC hvm hw_39 hB hz1 hk1 hS => ?_)
              obtain ⟨ecd9_40, feC9_41⟩ := u
              try dsimp only at hw_39 hB
              obtain ⟨hP1, hK1, hD1⟩ := hB
              rw [htC] at hP1
              have hK1 := va_K.moved hvm.symm hK1
              obtain ⟨hP, hD⟩ := va_join (wr := [(zaI aTp cTp 100 fTp)]) (w1 := [(zo7iirrrririii bl esg (nI ecl) eW eA eE eC (nI ecd9_40) aTp (nI ez) (nI ep9_26) (nI em9_27)), (zaI eC ceC 100 feC9_41)]) hP hD [0, 2] [1] rfl rfl (by decide) (by decide) hk1 hFc hP1 hD1
              have hK := (hK.sub (tys' := [(cTp, .int)]) [0] rfl).app hK1
              generalize H1 = H at hP hS ⊢
              have hP : va_P (dC, dI) vwCl [(zaI aTp cTp 100 fTp), (zo7iirrrririii bl esg (nI ecl) eW eA eE eC (nI ecd9_40) aTp (nI ez) (nI ep9_26) (nI em9_27)), (zaI eC ceC 100 feC9_41)] H := hP
              have hD : va_D A [(zaI aTp cTp 100 fTp), (zo7iirrrririii bl esg (nI ecl) eW eA eE eC (nI ecd9_40) aTp (nI ez) (nI ep9_26) (nI em9_27)), (zaI eC ceC 100 feC9_41)] := hD
              have hK : va_K (dC, dI) vwCl [(cTp, .int), (ceC, .int)] s := hK
              obtain ⟨e_42, hC_43, h_44⟩ := hw_39
              obtain rfl := (e_42).symm
              have hX_45 : XT feC9_41 (ecd9_25 + 1) (((kt ++ L1) ++ L_29) ++ [1803]) (ep9_26) := ⟨by rw [List.length_append, (hX_36).1]; rfl, by have h6 := (hX_36).1; have h7 := (hX_36).2.1; have h8 := hXT.1; have h9 := hXT.2.1; (try simp only [List.length_append] at h6); omega, h_44⟩
              refine lv_iinc (v := nI (i + 1)) (lv' := [(2, .int (nI (i + 1))), (0, .ref bl), (1, .int 1)]) hx hb dX5_readEither_45 hl (k := 2) rfl (nI_add i 1) (by decide) rfl (fun ls hl => ?_)
              refine lv_goto (tgt := 12) hx hb dX5_readEither_48 (by decide) ?_
              exact ih12 (i + 1) _ _ _ _ (L1 ++ (L_29 ++ [1803])) (m2) (by omega) (by omega) (⟨hE9.trans (ps_go hy9 eP_30), by omega⟩) (by omega) (by simp only [List.length_append, List.length_cons, List.length_nil]; omega) (XT.as (XT.as (hX_45))) (hC_43) _ _ (hK.sub [0, 1] rfl) (hP.sub [1, 0, 2] rfl) (hD.sub [1, 0, 2] (by decide) rfl) hS ls (lv_sub hl [1, 2, 0] rfl)
            · skip
              refine lv_if_ne (tgt := 39) hx hb dX5_readEither_34 (by decide) (fun c_46 => absurd c_46 (by decide)) (fun _ => ?_)
              refine lv_iconst (v := 0) hx hb dX5_readEither_37 (by decide) ?_
              rw [hQ]
              have hP9 := hP.sub (ws' := [(zo7iirrrririii bl esg (nI ecl) eW eA eE eC (nI ecd9_25) aTp (nI ez) (nI ep9_26) (nI em9_27)), (zaI aTp cTp 100 fTp), (zaI eC ceC 100 feC9_28)]) [0, 1, 2] rfl
              have hD9 := hD.sub (ws' := [(zo7iirrrririii bl esg (nI ecl) eW eA eE eC (nI ecd9_25) aTp (nI ez) (nI ep9_26) (nI em9_27)), (zaI aTp cTp 100 fTp), (zaI eC ceC 100 feC9_28)]) [0, 1, 2] (by decide) rfl
              have hK9 := hK.sub (tys' := [(cTp, .int), (ceC, .int)]) [0, 1] rfl
              exact W.zret (v := 0) hx hb hr rfl (fun tQ htQ hWQ => ⟨⟨0, (ecd9_25, ep9_26, em9_27, feC9_28), rfl, Or.inr ⟨rfl, hE9.trans (ps_bad hy9 eP_30), by omega, by omega, by first | omega | (have := (hXT).2.1; omega), hC_35⟩, by rw [htQ]; exact hP9, va_K.moved hWQ.alike hK9, hD9⟩, hS.F htQ⟩) hS.2.2 dX5_readEither_38
          · skip
            obtain rfl := (e_21).symm
            refine lv_if_eq (tgt := 51) hx hb dX5_readEither_26 (by decide) (fun _ => ?_) (fun c_47 => absurd c_47 (by decide))
            refine lv_iconst (v := 1) hx hb dX5_readEither_51 (by decide) ?_
            rw [hQ]
            have hP9 := hP.sub (ws' := [(zo7iirrrririii bl esg (nI ecl) eW eA eE eC (nI ecd2) aTp (nI ez) (nI ep2) (nI em2)), (zaI aTp cTp 100 fTp), (zaI eC ceC 100 feC2)]) [1, 2, 0] rfl
            have hD9 := hD.sub (ws' := [(zo7iirrrririii bl esg (nI ecl) eW eA eE eC (nI ecd2) aTp (nI ez) (nI ep2) (nI em2)), (zaI aTp cTp 100 fTp), (zaI eC ceC 100 feC2)]) [1, 2, 0] (by decide) rfl
            have hK9 := hK.sub (tys' := [(cTp, .int), (ceC, .int)]) [1, 0] rfl
            exact W.zret (v := 1) hx hb hr rfl (fun tQ htQ hWQ => ⟨⟨1, (ecd2, ep2, em2, feC2), rfl, Or.inl ⟨rfl, L1, hE9.trans (ps_end hn9), by omega, by omega, by omega, by (try simp only [List.length_append, List.length_cons, List.length_nil]); omega, hX2, zC2⟩, by rw [htQ]; exact hP9, va_K.moved hWQ.alike hK9, hD9⟩, hS.F htQ⟩) hS.2.2 dX5_readEither_52
    exact L12 _ (0) _ _ _ _ (L_7) (101) (Nat.lt_succ_self _) (by omega) (⟨pSm_s eP_8, by omega⟩) (by omega) (by omega) (hX_14) (hC_13) _ _ (hK.sub [0, 1] rfl) (hP.sub [0, 1, 2] rfl) (hD.sub [0, 1, 2] (by decide) rfl) hS ls (lv_sub hl [1, 2, 0] rfl)
  · skip
    refine lv_if_ne (tgt := 10) hx hb dX5_readEither_5 (by decide) (fun c_48 => absurd c_48 (by decide)) (fun _ => ?_)
    refine lv_iconst (v := 0) hx hb dX5_readEither_8 (by decide) ?_
    rw [hQ]
    have hP9 := hP.sub (ws' := [(zo7iirrrririii bl esg (nI ecl) eW eA eE eC (nI ecd9_3) aTp (nI ez) (nI ep9_4) (nI em9_5)), (zaI aTp cTp 100 fTp), (zaI eC ceC 100 feC9_6)]) [0, 1, 2] rfl
    have hD9 := hD.sub (ws' := [(zo7iirrrririii bl esg (nI ecl) eW eA eE eC (nI ecd9_3) aTp (nI ez) (nI ep9_4) (nI em9_5)), (zaI aTp cTp 100 fTp), (zaI eC ceC 100 feC9_6)]) [0, 1, 2] (by decide) rfl
    have hK9 := hK.sub (tys' := [(cTp, .int), (ceC, .int)]) [0, 1] rfl
    exact W.zret (v := 0) hx hb hr rfl (fun tQ htQ hWQ => ⟨⟨0, (ecd9_3, ep9_4, em9_5, feC9_6), rfl, Or.inr ⟨rfl, pSm_n eP_8, by omega, by omega, by first | omega | (have := (hXT).2.1; omega), hC_13⟩, by rw [htQ]; exact hP9, va_K.moved hWQ.alike hK9, hD9⟩, hS.F htQ⟩) hS.2.2 dX5_readEither_9
end mg15f
section mg15f

theorem kc_xPlain0_0 : ∀ w ∈ wsX50, w ∈ wsX5_readPlain := fun w h => List.mem_cons_of_mem _ (gin_wsX50 w h)
theorem kc_xPlain0_1 : (.fieldLink RX5 34 "MistHeaps$Hill" "at" "I" : Cond) ∈ wsX5_readPlain := kc_of 124 rfl rfl rfl
set_option maxHeartbeats 4000000 in
set_option maxRecDepth 100000 in
theorem c_xPlain0 (l : Launch) (dC : Nat → ClassId) (dI : Nat → Nat → Nat) (sK sV : Nat → Nat) (bl : Nat) (aTp : Nat) (eW : Nat) (eA : Nat) (eE : Nat) (eC : Nat) (ecl : Nat) (ecd : Nat) (esg : Int32) (cTp : ClassId) (ceC : ClassId) (fTp : Nat → Int32) (feC : Nat → Int32) (ez : Nat) (ep : Nat) (em : Nat) (ss : Nat → Nat) (kt : List Nat) (sz : Nat) (hez : ez ≤ 100) (hep : ep ≤ ez) (hem : em ≤ 99) (hXT : XT feC ecd kt ep) (zeC : ∀ k0, k0 < 100 → okC (feC k0)) (gX : TX fTp ez ss) : Met l yX5_readPlain wsX5_readPlain ({ frames := 20, cells := 0, slots := 0, locals := 443 } : Room) (va_Pc [.ref bl, .int 0] (fun U => U.heap.size = sz ∧ va_P (dC, dI) vwCl [(zo7iirrrririii bl esg (nI ecl) eW eA eE eC (nI ecd) aTp (nI ez) (nI ep) (nI em)), (zaI aTp cTp 100 fTp), (zaI eC ceC 100 feC)] U.heap ∧ va_K (dC, dI) vwCl [(cTp, .int), (ceC, .int)] U ∧ va_D (fun _ => True) [(zo7iirrrririii bl esg (nI ecl) eW eA eE eC (nI ecd) aTp (nI ez) (nI ep) (nI em)), (zaI aTp cTp 100 fTp), (zaI eC ceC 100 feC)] ∧ Gs sK sV (va_A [(zo7iirrrririii bl esg (nI ecl) eW eA eE eC (nI ecd) aTp (nI ez) (nI ep) (nI em)), (zaI aTp cTp 100 fTp), (zaI eC ceC 100 feC)] sz) U)) (va_Qi (fun (r : Int32) (u : (Nat) × (Nat) × (Nat) × (Nat → Int32)) => match u with | (ecd9, ep9, em9, feC9) => (r = 1 ∧ ∃ L0 : List Nat, pFac ss 5 ep = (some L0, ep9) ∧ ep + 3 ≤ ep9 ∧ ep9 ≤ ez ∧ em9 ≤ 99 ∧ L0.length + ep ≤ ep9 ∧ XT feC9 ecd9 (kt ++ L0) ep9 ∧ ∀ k0, k0 < 100 → okC (feC9 k0)) ∨ (r = 0 ∧ pFac ss 5 ep = (none, ep9) ∧ ep9 ≤ ez + 2 ∧ em9 ≤ 99 ∧ ecd9 ≤ 100 ∧ ∀ k0, k0 < 100 → okC (feC9 k0))) (fun (u : (Nat) × (Nat) × (Nat) × (Nat → Int32)) (t : State) => match u with | (ecd9, ep9, em9, feC9) => va_P (dC, dI) vwCl [(zo7iirrrririii bl esg (nI ecl) eW eA eE eC (nI ecd9) aTp (nI ez) (nI ep9) (nI em9)), (zaI aTp cTp 100 fTp), (zaI eC ceC 100 feC9)] t.heap ∧ va_K (dC, dI) vwCl [(cTp, .int), (ceC, .int)] t ∧ va_D (va_A [(zo7iirrrririii bl esg (nI ecl) eW eA eE eC (nI ecd) aTp (nI ez) (nI ep) (nI em)), (zaI aTp cTp 100 fTp), (zaI eC ceC 100 feC)] sz) [(zo7iirrrririii bl esg (nI ecl) eW eA eE eC (nI ecd9) aTp (nI ez) (nI ep9) (nI em9)), (zaI aTp cTp 100 fTp), (zaI eC ceC 100 feC9)]) (va_A [(zo7iirrrririii bl esg (nI ecl) eW eA eE eC (nI ecd) aTp (nI ez) (nI ep) (nI em)), (zaI aTp cTp 100 fTp), (zaI eC ceC 100 feC)] sz)) 0 0 (va_A [(zo7iirrrririii bl esg (nI ecl) eW eA eE eC (nI ecd) aTp (nI ez) (nI ep) (nI em)), (zaI aTp cTp 100 fTp), (zaI eC ceC 100 feC)] sz) := by
  refine met_ofQ (cc := cX5_readPlain) (maxL := 3) (ret := (some .boolean)) (by decide) rfl ?_
  intro p e s m args below meth c s₁ Q B hml hv hQ
  obtain ⟨rfl, hsz, hP, hK, hD0, hE⟩ := hv
  have hx := B.exec
  have hb := B.bytes
  have hr := B.returns
  have hts := atoms_spec (ws := wsX5_readPlain) B.pre
  have hown : s.vm.findClass RX5 = some m.cls := findClass_of_methodNamed B.named
  have hlocks := B.notSynchronized
  subst hsz
  have hD := hD0.self (sz := s.heap.size)
  generalize hAe : va_A [(zo7iirrrririii bl esg (nI ecl) eW eA eE eC (nI ecd) aTp (nI ez) (nI ep) (nI em)), (zaI aTp cTp 100 fTp), (zaI eC ceC 100 feC)] s.heap.size = A at hD hQ hE ⊢
  have hA : ∀ q : Nat, s.heap.size ≤ q → A q := fun q h => by rw [← hAe]; exact Or.inr h
  have hS : va_S A s.heap s.heap [] := va_S.rf
  have hl := lv_entry [.ref bl, .int 0] (n := 3) (Nat.le_of_ble_eq_true rfl)
  rw [lg_entry_eq]
  generalize (lg_sl [.ref bl, .int 0] ++ List.replicate (3 - (lg_sl [.ref bl, .int 0]).length) Slot.unset).toArray = ls at hl ⊢
  generalize hag : ([.ref bl, .int 0] : List Value).toArray = args at hts hQ ⊢
  have hl : lv_has ls 3 [(0, .ref bl), (1, .int 0)] := hl
  obtain ⟨H, hH⟩ : ∃ H : Heap, H = s.heap := ⟨_, rfl⟩
  rw [← hH] at hP
  rw [← hH]
  have hS : va_S A s.heap H [] := by rw [hH]; exact hS
  obtain ⟨locs, hlo⟩ : ∃ L : List Loc, L = [] := ⟨_, rfl⟩
  rw [← hlo] at hS
  rw [← hlo]
  clear hH hlo
  refine lv_aload_n hx hb dX5_readPlain_0 rfl (lv_at hl 0 rfl) ?_
  have hPc := hP.sub (ws' := [(zo7iirrrririii bl esg (nI ecl) eW eA eE eC (nI ecd) aTp (nI ez) (nI ep) (nI em)), (zaI aTp cTp 100 fTp)]) [0, 1] rfl
  have hKc := hK.sub (tys' := [(cTp, .int)]) [0] rfl
  refine vp_callSi (va_runV (As := []) (rest := []) ⟨hx, hb, hml, hown, hts⟩ (c_xSign l dC dI bl aTp eW eA eE eC ecl ecd esg cTp fTp ez ep em ss (hez) (by omega) (gX)) (cwV 0 hts gX5_readPlain_X5_sign rfl rfl rfl hd_yX5_sign ⟨Nat.le_of_ble_eq_true rfl, Nat.le_of_ble_eq_true rfl⟩) ⟨fun a U g mk q => by obtain ⟨q0, qP, qK⟩ := q; exact ⟨q0, mvP g mk a qP, mvK g mk a qK⟩, va_recv hK hP (ci := 7) (q := (RX5, TX5, 11)) (q0 := 0) rfl rfl, fun U hU hW => ⟨rfl, by rw [hU]; exact hPc, va_K.moved hW.alike hKc⟩⟩ rfl rfl hl.1 rfl (lv_room (Nat.le_of_ble_eq_true rfl)) dX5_readPlain_1 ⟨Nat.le_of_ble_eq_true rfl, Nat.le_of_ble_eq_true rfl⟩).run (fun r_1 hw_2 => ?_)
  obtain rfl := hw_2
  have hs8 := gX.2.2 (ep)
  refine lv_istore_n (lv' := [(2, .int (nI (ss ep))), (0, .ref bl), (1, .int 0)]) hx hb dX5_readPlain_4 rfl hl (by decide) rfl (fun ls hl => ?_)
  refine lv_iload_n hx hb dX5_readPlain_5 rfl (lv_at hl 0 rfl) ?_
  refine lv_bipush (v := 33) hx hb dX5_readPlain_6 (by decide) ?_
  refine lv_icmp_eq (tgt := 22) hx hb dX5_readPlain_8 (by decide) (fun c_3 => ?_) (fun c_3 => ?_)
  · skip
    have c_3 : (ss ep) = 33 := (nI_eq (a := (ss ep)) (b := 33) (by omega) (by omega)).mp c_3
    have hc : ss ep = 33 := c_3
    have hlt : ep < ez := Nat.lt_of_not_le (fun z => by have := gX.2.1 ep z; omega)
    refine lv_iload_n hx hb dX5_readPlain_22 rfl (lv_at hl 2 rfl) ?_
    refine lv_iconst (v := 5) hx hb dX5_readPlain_23 (by decide) ?_
    refine lv_icmp_lt (tgt := 29) hx hb dX5_readPlain_24 (by decide) (fun _ => ?_) (fun c_4 => absurd c_4 (by decide))
    refine lv_aload_n hx hb dX5_readPlain_29 rfl (lv_at hl 1 rfl) ?_
    refine lv_dup hx hb dX5_readPlain_30 rfl ?_
    refine va_get (D := (dC, dI)) (ci := 7) (v := .int (nI ep)) (C := RX5) (T := TX5) (N := 11) hx hb hts kc_xPlain0_0 hown hK hP 0 rfl rfl 9 (by decide) (hts (.fieldLink RX5 34 "MistHeaps$Hill" "at" "I") kc_xPlain0_1) (fun _ h9 => h9) rfl dX5_readPlain_31 ?_
    refine lv_iconst (v := 1) hx hb dX5_readPlain_34 (by decide) ?_
    refine lv_iadd hx hb dX5_readPlain_35 ?_
    refine qi_as (y := nI (ep + 1)) (nI_add ep 1) ?_
    refine va_put (D := (dC, dI)) (ci := 7) (v := .int (nI (ep + 1))) (ty := .int) (C := RX5) (T := TX5) (N := 11) hx hb hts kc_xPlain0_0 tyX5 tyX5_ok nmX5 hown hK hP hD hS 0 rfl rfl 9 (by decide) (hts (.fieldLink RX5 34 "MistHeaps$Hill" "at" "I") kc_xPlain0_1) (fun _ h9 => h9) rfl (by decide +kernel) rfl rfl (Nat.le_of_ble_eq_true rfl) dX5_readPlain_36 (fun H locs hP hD hS => ?_)
    have hP : va_P (dC, dI) vwCl [(zo7iirrrririii bl esg (nI ecl) eW eA eE eC (nI ecd) aTp (nI ez) (nI (ep + 1)) (nI em)), (zaI aTp cTp 100 fTp), (zaI eC ceC 100 feC)] H := hP
    have hD : va_D A [(zo7iirrrririii bl esg (nI ecl) eW eA eE eC (nI ecd) aTp (nI ez) (nI (ep + 1)) (nI em)), (zaI aTp cTp 100 fTp), (zaI eC ceC 100 feC)] := hD
    refine lv_iload_n hx hb dX5_readPlain_39 rfl (lv_at hl 0 rfl) ?_
    refine lv_bipush (v := 40) hx hb dX5_readPlain_40 (by decide) ?_
    refine lv_icmp_ne (tgt := 70) hx hb dX5_readPlain_42 (by decide) (fun c_5 => ?_) (fun c_5 => absurd c_5 (fun z9 => absurd ((nI_eq (a := ss ep) (b := 40) (by omega) (by omega)).mp z9) (by omega)))
    have c_5 : ¬ (ss ep) = 40 := fun q => c_5 ((nI_eq (a := (ss ep)) (b := 40) (by omega) (by omega)).mpr q)
    refine lv_aload_n hx hb dX5_readPlain_70 rfl (lv_at hl 1 rfl) ?_
    refine lv_iload_n hx hb dX5_readPlain_71 rfl (lv_at hl 2 rfl) ?_
    refine lv_iconst (v := 1) hx hb dX5_readPlain_72 (by decide) ?_
    refine lv_iadd hx hb dX5_readPlain_73 ?_
    refine qi_as (y := 1) (by decide) ?_
    have hPc := hP.sub (ws' := [(zo7iirrrririii bl esg (nI ecl) eW eA eE eC (nI ecd) aTp (nI ez) (nI (ep + 1)) (nI em)), (zaI aTp cTp 100 fTp), (zaI eC ceC 100 feC)]) [0, 1, 2] rfl
    have hDc := hD.sub (ws' := [(zo7iirrrririii bl esg (nI ecl) eW eA eE eC (nI ecd) aTp (nI ez) (nI (ep + 1)) (nI em)), (zaI aTp cTp 100 fTp), (zaI eC ceC 100 feC)]) [0, 1, 2] (by decide) rfl
    have hKc := hK.sub (tys' := [(cTp, .int), (ceC, .int)]) [0, 1] rfl
    have hFc := va_free (wc := [(zo7iirrrririii bl esg (nI ecl) eW eA eE eC (nI ecd) aTp (nI ez) (nI (ep + 1)) (nI em)), (zaI aTp cTp 100 fTp), (zaI eC ceC 100 feC)]) hD hS hA [0, 1, 2] rfl
    refine va_calli (va_runV (As := [.int 1]) (rest := []) ⟨hx, hb, hml, hown, hts⟩ (c_xPlain1 l dC dI sK sV bl aTp eW eA eE eC ecl ecd esg cTp ceC fTp feC ez (ep + 1) em ss kt H.size (hez) (by omega) (by omega) ((hXT).mono (by omega)) (zeC) (gX)) (cwV 1 hts gX5_readPlain_X5_readPlain rfl rfl rfl hd_yX5_readPlain ⟨Nat.le_of_ble_eq_true rfl, Nat.le_of_ble_eq_true rfl⟩) ⟨fun a U g mk q => by obtain ⟨q0, q1, qP, qK, qD, qhE⟩ := q; exact ⟨q0, mvz g mk a q1, mvP g mk a qP, mvK g mk a qK, qD, qhE.mv g mk a⟩, va_recv hK hP (ci := 7) (q := (RX5, TX5, 11)) (q0 := 0) rfl rfl, fun U hU hW => ⟨rfl, by rw [hU], by rw [hU]; exact hPc, va_K.moved hW.alike hKc, hDc.weaken (fun _ _ _ _ => trivial), hE.call hS hU hW (fun q h => hFc q h)⟩⟩ rfl rfl hl.1 rfl (lv_room (Nat.le_of_ble_eq_true rfl)) dX5_readPlain_74 ⟨Nat.le_of_ble_eq_true rfl, Nat.le_of_ble_eq_true rfl⟩) hS (fun q _ h => hFc q h) hFc (fun r_6 u tC H1 locs htC hvm hw_7 hB hz1 hk1 hS => ?_)
    obtain ⟨ecd9_8, ep9_9, em9_10, feC9_11⟩ := u
    try dsimp only at hw_7 hB
    obtain ⟨hP1, hK1, hD1⟩ := hB
    rw [htC] at hP1
    have hK1 := va_K.moved hvm.symm hK1
    obtain ⟨hP, hD⟩ := va_join (wr := []) (w1 := [(zo7iirrrririii bl esg (nI ecl) eW eA eE eC (nI ecd9_8) aTp (nI ez) (nI ep9_9) (nI em9_10)), (zaI aTp cTp 100 fTp), (zaI eC ceC 100 feC9_11)]) hP hD [0, 1, 2] [] rfl rfl (by decide) (by decide) hk1 hFc hP1 hD1
    have hK := (hK.sub (tys' := []) [] rfl).app hK1
    generalize H1 = H at hP hS ⊢
    have hP : va_P (dC, dI) vwCl [(zo7iirrrririii bl esg (nI ecl) eW eA eE eC (nI ecd9_8) aTp (nI ez) (nI ep9_9) (nI em9_10)), (zaI aTp cTp 100 fTp), (zaI eC ceC 100 feC9_11)] H := hP
    have hD : va_D A [(zo7iirrrririii bl esg (nI ecl) eW eA eE eC (nI ecd9_8) aTp (nI ez) (nI ep9_9) (nI em9_10)), (zaI aTp cTp 100 fTp), (zaI eC ceC 100 feC9_11)] := hD
    have hK : va_K (dC, dI) vwCl [(cTp, .int), (ceC, .int)] s := hK
    rcases hw_7 with ⟨rfl, L_12, eP_13, h_14, h_15, h_16, h_17, hX_19, hC_18⟩ | ⟨rfl, eP_13, h_14, h_15, h_16, hC_18⟩
    · skip
      refine lv_if_ne (tgt := 82) hx hb dX5_readPlain_77 (by decide) (fun _ => ?_) (fun c_20 => absurd c_20 (by decide))
      refine lv_aload_n hx hb dX5_readPlain_82 rfl (lv_at hl 1 rfl) ?_
      refine lv_iconst (v := (-1)) hx hb dX5_readPlain_83 (by decide) ?_
      have hPc := hP.sub (ws' := [(zo7iirrrririii bl esg (nI ecl) eW eA eE eC (nI ecd9_8) aTp (nI ez) (nI ep9_9) (nI em9_10)), (zaI eC ceC 100 feC9_11)]) [0, 2] rfl
      have hDc := hD.sub (ws' := [(zo7iirrrririii bl esg (nI ecl) eW eA eE eC (nI ecd9_8) aTp (nI ez) (nI ep9_9) (nI em9_10)), (zaI eC ceC 100 feC9_11)]) [0, 2] (by decide) rfl
      have hKc := hK.sub (tys' := [(ceC, .int)]) [1] rfl
      have hFc := va_free (wc := [(zo7iirrrririii bl esg (nI ecl) eW eA eE eC (nI ecd9_8) aTp (nI ez) (nI ep9_9) (nI em9_10)), (zaI eC ceC 100 feC9_11)]) hD hS hA [0, 2] rfl
      refine va_callv (va_runV (As := [.int (-1)]) (rest := []) ⟨hx, hb, hml, hown, hts⟩ (c_xCode l dC dI bl aTp eW eA eE eC ecl ecd9_8 (-1) esg ceC feC9_11 ez ep9_9 em9_10 (kt ++ L_12) 1801 H.size ((hX_19).mono (by omega)) (by have h6 := (hX_19).1; have h7 := (hX_19).2.1; have h8 := hXT.1; have h9 := hXT.2.1; (try simp only [List.length_append] at h6); omega) (hC_18) (Or.inl rfl) (by decide)) (cwV 1 hts gX5_readPlain_X5_code rfl rfl rfl hd_yX5_code ⟨Nat.le_of_ble_eq_true rfl, Nat.le_of_ble_eq_true rfl⟩) ⟨fun a U g mk q => by obtain ⟨q0, q1, qP, qK, qD⟩ := q; exact ⟨q0, mvz g mk a q1, mvP g mk a qP, mvK g mk a qK, qD⟩, va_recv hK hP (ci := 7) (q := (RX5, TX5, 11)) (q0 := 0) rfl rfl, fun U hU hW => ⟨rfl, by rw [hU], by rw [hU]; exact hPc, va_K.moved hW.alike hKc, hDc.weaken (fun _ _ _ _ => trivial)⟩⟩ rfl rfl hl.1 rfl (lv_room (Nat.le_of_ble_eq_true rfl)) dX5_readPlain_84 ⟨Nat.le_of_ble_eq_true rfl, Nat.le_of_ble_eq_true rfl⟩) hS (fun q _ h => hFc q h) hFc (fun u tC H1 locs htC hvm hw_22 hB hz1 hk1 hS => ?_)
      obtain ⟨ecd9_23, feC9_24⟩ := u
      try dsimp only at hw_22 hB
      obtain ⟨hP1, hK1, hD1⟩ := hB
      rw [htC] at hP1
      have hK1 := va_K.moved hvm.symm hK1
      obtain ⟨hP, hD⟩ := va_join (wr := [(zaI aTp cTp 100 fTp)]) (w1 := [(zo7iirrrririii bl esg (nI ecl) eW eA eE eC (nI ecd9_23) aTp (nI ez) (nI ep9_9) (nI em9_10)), (zaI eC ceC 100 feC9_24)]) hP hD [0, 2] [1] rfl rfl (by decide) (by decide) hk1 hFc hP1 hD1
      have hK := (hK.sub (tys' := [(cTp, .int)]) [0] rfl).app hK1
      generalize H1 = H at hP hS ⊢
      have hP : va_P (dC, dI) vwCl [(zaI aTp cTp 100 fTp), (zo7iirrrririii bl esg (nI ecl) eW eA eE eC (nI ecd9_23) aTp (nI ez) (nI ep9_9) (nI em9_10)), (zaI eC ceC 100 feC9_24)] H := hP
      have hD : va_D A [(zaI aTp cTp 100 fTp), (zo7iirrrririii bl esg (nI ecl) eW eA eE eC (nI ecd9_23) aTp (nI ez) (nI ep9_9) (nI em9_10)), (zaI eC ceC 100 feC9_24)] := hD
      have hK : va_K (dC, dI) vwCl [(cTp, .int), (ceC, .int)] s := hK
      obtain ⟨e_25, hC_26, h_27⟩ := hw_22
      obtain rfl := (e_25).symm
      have hX_28 : XT feC9_24 (ecd9_8 + 1) ((kt ++ L_12) ++ [1801]) (ep9_9) := ⟨by rw [List.length_append, (hX_19).1]; rfl, by have h6 := (hX_19).1; have h7 := (hX_19).2.1; have h8 := hXT.1; have h9 := hXT.2.1; (try simp only [List.length_append] at h6); omega, h_27⟩
      refine lv_iconst (v := 1) hx hb dX5_readPlain_87 (by decide) ?_
      rw [hQ]
      have hP9 := hP.sub (ws' := [(zo7iirrrririii bl esg (nI ecl) eW eA eE eC (nI (ecd9_8 + 1)) aTp (nI ez) (nI ep9_9) (nI em9_10)), (zaI aTp cTp 100 fTp), (zaI eC ceC 100 feC9_24)]) [1, 0, 2] rfl
      have hD9 := hD.sub (ws' := [(zo7iirrrririii bl esg (nI ecl) eW eA eE eC (nI (ecd9_8 + 1)) aTp (nI ez) (nI ep9_9) (nI em9_10)), (zaI aTp cTp 100 fTp), (zaI eC ceC 100 feC9_24)]) [1, 0, 2] (by decide) rfl
      have hK9 := hK.sub (tys' := [(cTp, .int), (ceC, .int)]) [0, 1] rfl
      exact W.zret (v := 1) hx hb hr rfl (fun tQ htQ hWQ => ⟨⟨1, ((ecd9_8 + 1), ep9_9, em9_10, feC9_24), rfl, Or.inl ⟨rfl, (L_12 ++ [1801]), pf_n1 (l := 4) hc eP_13, by omega, by omega, by omega, by (try simp only [List.length_append, List.length_cons, List.length_nil]); omega, XT.as ((hX_28).mono (by omega)), hC_26⟩, by rw [htQ]; exact hP9, va_K.moved hWQ.alike hK9, hD9⟩, hS.F htQ⟩) hS.2.2 dX5_readPlain_88
    · skip
      refine lv_if_ne (tgt := 82) hx hb dX5_readPlain_77 (by decide) (fun c_29 => absurd c_29 (by decide)) (fun _ => ?_)
      refine lv_iconst (v := 0) hx hb dX5_readPlain_80 (by decide) ?_
      rw [hQ]
      have hP9 := hP.sub (ws' := [(zo7iirrrririii bl esg (nI ecl) eW eA eE eC (nI ecd9_8) aTp (nI ez) (nI ep9_9) (nI em9_10)), (zaI aTp cTp 100 fTp), (zaI eC ceC 100 feC9_11)]) [0, 1, 2] rfl
      have hD9 := hD.sub (ws' := [(zo7iirrrririii bl esg (nI ecl) eW eA eE eC (nI ecd9_8) aTp (nI ez) (nI ep9_9) (nI em9_10)), (zaI aTp cTp 100 fTp), (zaI eC ceC 100 feC9_11)]) [0, 1, 2] (by decide) rfl
      have hK9 := hK.sub (tys' := [(cTp, .int), (ceC, .int)]) [0, 1] rfl
      exact W.zret (v := 0) hx hb hr rfl (fun tQ htQ hWQ => ⟨⟨0, (ecd9_8, ep9_9, em9_10, feC9_11), rfl, Or.inr ⟨rfl, pf_n0 (l := 4) hc eP_13, by omega, by omega, by first | omega | (have := (hXT).2.1; omega), hC_18⟩, by rw [htQ]; exact hP9, va_K.moved hWQ.alike hK9, hD9⟩, hS.F htQ⟩) hS.2.2 dX5_readPlain_81
  · skip
    have c_3 : ¬ (ss ep) = 33 := fun q => c_3 ((nI_eq (a := (ss ep)) (b := 33) (by omega) (by omega)).mpr q)
    have hn33 : ¬ ss ep = 33 := c_3
    refine lv_iload_n hx hb dX5_readPlain_11 rfl (lv_at hl 0 rfl) ?_
    refine lv_bipush (v := 40) hx hb dX5_readPlain_12 (by decide) ?_
    refine lv_icmp_eq (tgt := 22) hx hb dX5_readPlain_14 (by decide) (fun c_30 => ?_) (fun c_30 => ?_)
    · skip
      have c_30 : (ss ep) = 40 := (nI_eq (a := (ss ep)) (b := 40) (by omega) (by omega)).mp c_30
      have hc : ss ep = 40 := c_30
      have hlt : ep < ez := Nat.lt_of_not_le (fun z => by have := gX.2.1 ep z; omega)
      refine lv_iload_n hx hb dX5_readPlain_22 rfl (lv_at hl 2 rfl) ?_
      refine lv_iconst (v := 5) hx hb dX5_readPlain_23 (by decide) ?_
      refine lv_icmp_lt (tgt := 29) hx hb dX5_readPlain_24 (by decide) (fun _ => ?_) (fun c_31 => absurd c_31 (by decide))
      refine lv_aload_n hx hb dX5_readPlain_29 rfl (lv_at hl 1 rfl) ?_
      refine lv_dup hx hb dX5_readPlain_30 rfl ?_
      refine va_get (D := (dC, dI)) (ci := 7) (v := .int (nI ep)) (C := RX5) (T := TX5) (N := 11) hx hb hts kc_xPlain0_0 hown hK hP 0 rfl rfl 9 (by decide) (hts (.fieldLink RX5 34 "MistHeaps$Hill" "at" "I") kc_xPlain0_1) (fun _ h9 => h9) rfl dX5_readPlain_31 ?_
      refine lv_iconst (v := 1) hx hb dX5_readPlain_34 (by decide) ?_
      refine lv_iadd hx hb dX5_readPlain_35 ?_
      refine qi_as (y := nI (ep + 1)) (nI_add ep 1) ?_
      refine va_put (D := (dC, dI)) (ci := 7) (v := .int (nI (ep + 1))) (ty := .int) (C := RX5) (T := TX5) (N := 11) hx hb hts kc_xPlain0_0 tyX5 tyX5_ok nmX5 hown hK hP hD hS 0 rfl rfl 9 (by decide) (hts (.fieldLink RX5 34 "MistHeaps$Hill" "at" "I") kc_xPlain0_1) (fun _ h9 => h9) rfl (by decide +kernel) rfl rfl (Nat.le_of_ble_eq_true rfl) dX5_readPlain_36 (fun H locs hP hD hS => ?_)
      have hP : va_P (dC, dI) vwCl [(zo7iirrrririii bl esg (nI ecl) eW eA eE eC (nI ecd) aTp (nI ez) (nI (ep + 1)) (nI em)), (zaI aTp cTp 100 fTp), (zaI eC ceC 100 feC)] H := hP
      have hD : va_D A [(zo7iirrrririii bl esg (nI ecl) eW eA eE eC (nI ecd) aTp (nI ez) (nI (ep + 1)) (nI em)), (zaI aTp cTp 100 fTp), (zaI eC ceC 100 feC)] := hD
      refine lv_iload_n hx hb dX5_readPlain_39 rfl (lv_at hl 0 rfl) ?_
      refine lv_bipush (v := 40) hx hb dX5_readPlain_40 (by decide) ?_
      refine lv_icmp_ne (tgt := 70) hx hb dX5_readPlain_42 (by decide) (fun c_32 => absurd c_32 (fun z9 => z9 ((nI_eq (a := ss ep) (b := 40) (by omega) (by omega)).mpr hc))) (fun c_32 => ?_)
      have c_32 : (ss ep) = 40 := (nI_eq (a := (ss ep)) (b := 40) (by omega) (by omega)).mp c_32
      refine lv_aload_n hx hb dX5_readPlain_45 rfl (lv_at hl 1 rfl) ?_
      refine lv_iload_n hx hb dX5_readPlain_46 rfl (lv_at hl 2 rfl) ?_
      refine lv_iconst (v := 1) hx hb dX5_readPlain_47 (by decide) ?_
      refine lv_iadd hx hb dX5_readPlain_48 ?_
      refine qi_as (y := 1) (by decide) ?_
      have hPc := hP.sub (ws' := [(zo7iirrrririii bl esg (nI ecl) eW eA eE eC (nI ecd) aTp (nI ez) (nI (ep + 1)) (nI em)), (zaI aTp cTp 100 fTp), (zaI eC ceC 100 feC)]) [0, 1, 2] rfl
      have hDc := hD.sub (ws' := [(zo7iirrrririii bl esg (nI ecl) eW eA eE eC (nI ecd) aTp (nI ez) (nI (ep + 1)) (nI em)), (zaI aTp cTp 100 fTp), (zaI eC ceC 100 feC)]) [0, 1, 2] (by decide) rfl
      have hKc := hK.sub (tys' := [(cTp, .int), (ceC, .int)]) [0, 1] rfl
      have hFc := va_free (wc := [(zo7iirrrririii bl esg (nI ecl) eW eA eE eC (nI ecd) aTp (nI ez) (nI (ep + 1)) (nI em)), (zaI aTp cTp 100 fTp), (zaI eC ceC 100 feC)]) hD hS hA [0, 1, 2] rfl
      refine va_calli (va_runV (As := [.int 1]) (rest := []) ⟨hx, hb, hml, hown, hts⟩ (c_xEither1 l dC dI sK sV bl aTp eW eA eE eC ecl ecd esg cTp ceC fTp feC ez (ep + 1) em ss kt H.size (hez) (by omega) (by omega) ((hXT).mono (by omega)) (zeC) (gX)) (cwV 1 hts gX5_readPlain_X5_readEither rfl rfl rfl hd_yX5_readEither ⟨Nat.le_of_ble_eq_true rfl, Nat.le_of_ble_eq_true rfl⟩) ⟨fun a U g mk q => by obtain ⟨q0, q1, qP, qK, qD, qhE⟩ := q; exact ⟨q0, mvz g mk a q1, mvP g mk a qP, mvK g mk a qK, qD, qhE.mv g mk a⟩, va_recv hK hP (ci := 7) (q := (RX5, TX5, 11)) (q0 := 0) rfl rfl, fun U hU hW => ⟨rfl, by rw [hU], by rw [hU]; exact hPc, va_K.moved hW.alike hKc, hDc.weaken (fun _ _ _ _ => trivial), hE.call hS hU hW (fun q h => hFc q h)⟩⟩ rfl rfl hl.1 rfl (lv_room (Nat.le_of_ble_eq_true rfl)) dX5_readPlain_49 ⟨Nat.le_of_ble_eq_true rfl, Nat.le_of_ble_eq_true rfl⟩) hS (fun q _ h => hFc q h) hFc (fun r_33 u tC H1 locs htC hvm hw_34 hB hz1 hk1 hS => ?_)
      obtain ⟨ecd9_35, ep9_36, em9_37, feC9_38⟩ := u
      try dsimp only at hw_34 hB
      obtain ⟨hP1, hK1, hD1⟩ := hB
      rw [htC] at hP1
      have hK1 := va_K.moved hvm.symm hK1
      obtain ⟨hP, hD⟩ := va_join (wr := []) (w1 := [(zo7iirrrririii bl esg (nI ecl) eW eA eE eC (nI ecd9_35) aTp (nI ez) (nI ep9_36) (nI em9_37)), (zaI aTp cTp 100 fTp), (zaI eC ceC 100 feC9_38)]) hP hD [0, 1, 2] [] rfl rfl (by decide) (by decide) hk1 hFc hP1 hD1
      have hK := (hK.sub (tys' := []) [] rfl).app hK1
      generalize H1 = H at hP hS ⊢
      have hP : va_P (dC, dI) vwCl [(zo7iirrrririii bl esg (nI ecl) eW eA eE eC (nI ecd9_35) aTp (nI ez) (nI ep9_36) (nI em9_37)), (zaI aTp cTp 100 fTp), (zaI eC ceC 100 feC9_38)] H := hP
      have hD : va_D A [(zo7iirrrririii bl esg (nI ecl) eW eA eE eC (nI ecd9_35) aTp (nI ez) (nI ep9_36) (nI em9_37)), (zaI aTp cTp 100 fTp), (zaI eC ceC 100 feC9_38)] := hD
      have hK : va_K (dC, dI) vwCl [(cTp, .int), (ceC, .int)] s := hK
      rcases hw_34 with ⟨rfl, L_39, eP_40, h_41, h_42, h_43, h_44, hX_46, hC_45⟩ | ⟨rfl, eP_40, h_41, h_42, h_43, hC_45⟩
      · skip
        refine lv_if_eq (tgt := 68) hx hb dX5_readPlain_52 (by decide) (fun c_47 => absurd c_47 (by decide)) (fun _ => ?_)
        refine lv_aload_n hx hb dX5_readPlain_55 rfl (lv_at hl 1 rfl) ?_
        refine lv_bipush (v := 41) hx hb dX5_readPlain_56 (by decide) ?_
        have hPc := hP.sub (ws' := [(zo7iirrrririii bl esg (nI ecl) eW eA eE eC (nI ecd9_35) aTp (nI ez) (nI ep9_36) (nI em9_37)), (zaI aTp cTp 100 fTp)]) [0, 1] rfl
        have hDc := hD.sub (ws' := [(zo7iirrrririii bl esg (nI ecl) eW eA eE eC (nI ecd9_35) aTp (nI ez) (nI ep9_36) (nI em9_37)), (zaI aTp cTp 100 fTp)]) [0, 1] (by decide) rfl
        have hKc := hK.sub (tys' := [(cTp, .int)]) [0] rfl
        have hFc := va_free (wc := [(zo7iirrrririii bl esg (nI ecl) eW eA eE eC (nI ecd9_35) aTp (nI ez) (nI ep9_36) (nI em9_37)), (zaI aTp cTp 100 fTp)]) hD hS hA [0, 1] rfl
        refine va_calli (va_runV (As := [.int 41]) (rest := []) ⟨hx, hb, hml, hown, hts⟩ (c_xReadSign l dC dI bl aTp eW eA eE eC 41 ecl ecd9_35 esg cTp fTp ez ep9_36 em9_37 ss H.size (hez) (by omega) (by decide) (by decide) (gX)) (cwV 1 hts gX5_readPlain_X5_readSign rfl rfl rfl hd_yX5_readSign ⟨Nat.le_of_ble_eq_true rfl, Nat.le_of_ble_eq_true rfl⟩) ⟨fun a U g mk q => by obtain ⟨q0, q1, qP, qK, qD⟩ := q; exact ⟨q0, mvz g mk a q1, mvP g mk a qP, mvK g mk a qK, qD⟩, va_recv hK hP (ci := 7) (q := (RX5, TX5, 11)) (q0 := 0) rfl rfl, fun U hU hW => ⟨rfl, by rw [hU], by rw [hU]; exact hPc, va_K.moved hW.alike hKc, hDc.weaken (fun _ _ _ _ => trivial)⟩⟩ rfl rfl hl.1 rfl (lv_room (Nat.le_of_ble_eq_true rfl)) dX5_readPlain_58 ⟨Nat.le_of_ble_eq_true rfl, Nat.le_of_ble_eq_true rfl⟩) hS (fun q _ h => hFc q h) hFc (fun r_48 u tC H1 locs htC hvm hw_49 hB hz1 hk1 hS => ?_)
        obtain ⟨ep9_50, rfl⟩ : ∃ z, z = u := ⟨_, rfl⟩
        try dsimp only at hw_49 hB
        obtain ⟨hP1, hK1, hD1⟩ := hB
        rw [htC] at hP1
        have hK1 := va_K.moved hvm.symm hK1
        obtain ⟨hP, hD⟩ := va_join (wr := [(zaI eC ceC 100 feC9_38)]) (w1 := [(zo7iirrrririii bl esg (nI ecl) eW eA eE eC (nI ecd9_35) aTp (nI ez) (nI ep9_50) (nI em9_37)), (zaI aTp cTp 100 fTp)]) hP hD [0, 1] [2] rfl rfl (by decide) (by decide) hk1 hFc hP1 hD1
        have hK := (hK.sub (tys' := [(ceC, .int)]) [1] rfl).app hK1
        generalize H1 = H at hP hS ⊢
        have hP : va_P (dC, dI) vwCl [(zaI eC ceC 100 feC9_38), (zo7iirrrririii bl esg (nI ecl) eW eA eE eC (nI ecd9_35) aTp (nI ez) (nI ep9_50) (nI em9_37)), (zaI aTp cTp 100 fTp)] H := hP
        have hD : va_D A [(zaI eC ceC 100 feC9_38), (zo7iirrrririii bl esg (nI ecl) eW eA eE eC (nI ecd9_35) aTp (nI ez) (nI ep9_50) (nI em9_37)), (zaI aTp cTp 100 fTp)] := hD
        have hK : va_K (dC, dI) vwCl [(ceC, .int), (cTp, .int)] s := hK
        rcases hw_49 with ⟨rfl, hy41, h_51, e_52⟩ | ⟨rfl, hn41, e_52⟩
        · skip
          obtain rfl := (e_52).symm
          refine lv_if_eq (tgt := 68) hx hb dX5_readPlain_61 (by decide) (fun c_53 => absurd c_53 (by decide)) (fun _ => ?_)
          refine lv_iconst (v := 1) hx hb dX5_readPlain_64 (by decide) ?_
          refine lv_goto (tgt := 69) hx hb dX5_readPlain_65 (by decide) ?_
          rw [hQ]
          have hP9 := hP.sub (ws' := [(zo7iirrrririii bl esg (nI ecl) eW eA eE eC (nI ecd9_35) aTp (nI ez) (nI (ep9_36 + 1)) (nI em9_37)), (zaI aTp cTp 100 fTp), (zaI eC ceC 100 feC9_38)]) [1, 2, 0] rfl
          have hD9 := hD.sub (ws' := [(zo7iirrrririii bl esg (nI ecl) eW eA eE eC (nI ecd9_35) aTp (nI ez) (nI (ep9_36 + 1)) (nI em9_37)), (zaI aTp cTp 100 fTp), (zaI eC ceC 100 feC9_38)]) [1, 2, 0] (by decide) rfl
          have hK9 := hK.sub (tys' := [(cTp, .int), (ceC, .int)]) [1, 0] rfl
          exact W.zret (v := 1) hx hb hr rfl (fun tQ htQ hWQ => ⟨⟨1, (ecd9_35, (ep9_36 + 1), em9_37, feC9_38), rfl, Or.inl ⟨rfl, L_39, pf_b2 (l := 4) hc eP_40 hy41, by omega, by omega, by omega, by (try simp only [List.length_append, List.length_cons, List.length_nil]); omega, (hX_46).mono (by omega), hC_45⟩, by rw [htQ]; exact hP9, va_K.moved hWQ.alike hK9, hD9⟩, hS.F htQ⟩) hS.2.2 dX5_readPlain_69
        · skip
          obtain rfl := (e_52).symm
          refine lv_if_eq (tgt := 68) hx hb dX5_readPlain_61 (by decide) (fun _ => ?_) (fun c_54 => absurd c_54 (by decide))
          refine lv_iconst (v := 0) hx hb dX5_readPlain_68 (by decide) ?_
          rw [hQ]
          have hP9 := hP.sub (ws' := [(zo7iirrrririii bl esg (nI ecl) eW eA eE eC (nI ecd9_35) aTp (nI ez) (nI ep9_36) (nI em9_37)), (zaI aTp cTp 100 fTp), (zaI eC ceC 100 feC9_38)]) [1, 2, 0] rfl
          have hD9 := hD.sub (ws' := [(zo7iirrrririii bl esg (nI ecl) eW eA eE eC (nI ecd9_35) aTp (nI ez) (nI ep9_36) (nI em9_37)), (zaI aTp cTp 100 fTp), (zaI eC ceC 100 feC9_38)]) [1, 2, 0] (by decide) rfl
          have hK9 := hK.sub (tys' := [(cTp, .int), (ceC, .int)]) [1, 0] rfl
          exact W.zret (v := 0) hx hb hr rfl (fun tQ htQ hWQ => ⟨⟨0, (ecd9_35, ep9_36, em9_37, feC9_38), rfl, Or.inr ⟨rfl, pf_b1 (l := 4) hc eP_40 hn41, by omega, by omega, by first | omega | (have := (hX_46).2.1; omega), hC_45⟩, by rw [htQ]; exact hP9, va_K.moved hWQ.alike hK9, hD9⟩, hS.F htQ⟩) hS.2.2 dX5_readPlain_69
      · skip
        refine lv_if_eq (tgt := 68) hx hb dX5_readPlain_52 (by decide) (fun _ => ?_) (fun c_55 => absurd c_55 (by decide))
        refine lv_iconst (v := 0) hx hb dX5_readPlain_68 (by decide) ?_
        rw [hQ]
        have hP9 := hP.sub (ws' := [(zo7iirrrririii bl esg (nI ecl) eW eA eE eC (nI ecd9_35) aTp (nI ez) (nI ep9_36) (nI em9_37)), (zaI aTp cTp 100 fTp), (zaI eC ceC 100 feC9_38)]) [0, 1, 2] rfl
        have hD9 := hD.sub (ws' := [(zo7iirrrririii bl esg (nI ecl) eW eA eE eC (nI ecd9_35) aTp (nI ez) (nI ep9_36) (nI em9_37)), (zaI aTp cTp 100 fTp), (zaI eC ceC 100 feC9_38)]) [0, 1, 2] (by decide) rfl
        have hK9 := hK.sub (tys' := [(cTp, .int), (ceC, .int)]) [0, 1] rfl
        exact W.zret (v := 0) hx hb hr rfl (fun tQ htQ hWQ => ⟨⟨0, (ecd9_35, ep9_36, em9_37, feC9_38), rfl, Or.inr ⟨rfl, pf_b0 (l := 4) hc eP_40, by omega, by omega, by first | omega | (have := (hXT).2.1; omega), hC_45⟩, by rw [htQ]; exact hP9, va_K.moved hWQ.alike hK9, hD9⟩, hS.F htQ⟩) hS.2.2 dX5_readPlain_69
    · skip
      have c_30 : ¬ (ss ep) = 40 := fun q => c_30 ((nI_eq (a := (ss ep)) (b := 40) (by omega) (by omega)).mpr q)
      have hn40 : ¬ ss ep = 40 := c_30
      refine lv_aload_n hx hb dX5_readPlain_17 rfl (lv_at hl 1 rfl) ?_
      have hPc := hP.sub (ws' := [(zo7iirrrririii bl esg (nI ecl) eW eA eE eC (nI ecd) aTp (nI ez) (nI ep) (nI em)), (zaI aTp cTp 100 fTp), (zaI eC ceC 100 feC)]) [0, 1, 2] rfl
      have hDc := hD.sub (ws' := [(zo7iirrrririii bl esg (nI ecl) eW eA eE eC (nI ecd) aTp (nI ez) (nI ep) (nI em)), (zaI aTp cTp 100 fTp), (zaI eC ceC 100 feC)]) [0, 1, 2] (by decide) rfl
      have hKc := hK.sub (tys' := [(cTp, .int), (ceC, .int)]) [0, 1] rfl
      have hFc := va_free (wc := [(zo7iirrrririii bl esg (nI ecl) eW eA eE eC (nI ecd) aTp (nI ez) (nI ep) (nI em)), (zaI aTp cTp 100 fTp), (zaI eC ceC 100 feC)]) hD hS hA [0, 1, 2] rfl
      refine va_calli (va_runV (As := []) (rest := []) ⟨hx, hb, hml, hown, hts⟩ (c_readTest l dC dI sK sV bl aTp eW eA eE eC ecl ecd esg cTp ceC fTp feC ez ep em ss kt H.size (hez) (by omega) (by omega) ((hXT).mono (by omega)) (zeC) (gX)) (cwV 0 hts gX5_readPlain_X5_readTest rfl rfl rfl hd_yX5_readTest ⟨Nat.le_of_ble_eq_true rfl, Nat.le_of_ble_eq_true rfl⟩) ⟨fun a U g mk q => by obtain ⟨q0, q1, qP, qK, qD, qhE⟩ := q; exact ⟨q0, mvz g mk a q1, mvP g mk a qP, mvK g mk a qK, qD, qhE.mv g mk a⟩, va_recv hK hP (ci := 7) (q := (RX5, TX5, 11)) (q0 := 0) rfl rfl, fun U hU hW => ⟨rfl, by rw [hU], by rw [hU]; exact hPc, va_K.moved hW.alike hKc, hDc.weaken (fun _ _ _ _ => trivial), hE.call hS hU hW (fun q h => hFc q h)⟩⟩ rfl rfl hl.1 rfl (lv_room (Nat.le_of_ble_eq_true rfl)) dX5_readPlain_18 ⟨Nat.le_of_ble_eq_true rfl, Nat.le_of_ble_eq_true rfl⟩) hS (fun q _ h => hFc q h) hFc (fun r_56 u tC H1 locs htC hvm hw_57 hB hz1 hk1 hS => ?_)
      obtain ⟨ecd9_58, ep9_59, em9_60, feC9_61⟩ := u
      try dsimp only at hw_57 hB
      obtain ⟨hP1, hK1, hD1⟩ := hB
      rw [htC] at hP1
      have hK1 := va_K.moved hvm.symm hK1
      obtain ⟨hP, hD⟩ := va_join (wr := []) (w1 := [(zo7iirrrririii bl esg (nI ecl) eW eA eE eC (nI ecd9_58) aTp (nI ez) (nI ep9_59) (nI em9_60)), (zaI aTp cTp 100 fTp), (zaI eC ceC 100 feC9_61)]) hP hD [0, 1, 2] [] rfl rfl (by decide) (by decide) hk1 hFc hP1 hD1
      have hK := (hK.sub (tys' := []) [] rfl).app hK1
      generalize H1 = H at hP hS ⊢
      have hP : va_P (dC, dI) vwCl [(zo7iirrrririii bl esg (nI ecl) eW eA eE eC (nI ecd9_58) aTp (nI ez) (nI ep9_59) (nI em9_60)), (zaI aTp cTp 100 fTp), (zaI eC ceC 100 feC9_61)] H := hP
      have hD : va_D A [(zo7iirrrririii bl esg (nI ecl) eW eA eE eC (nI ecd9_58) aTp (nI ez) (nI ep9_59) (nI em9_60)), (zaI aTp cTp 100 fTp), (zaI eC ceC 100 feC9_61)] := hD
      have hK : va_K (dC, dI) vwCl [(cTp, .int), (ceC, .int)] s := hK
      rw [hQ]
      have hP9 := hP.sub (ws' := [(zo7iirrrririii bl esg (nI ecl) eW eA eE eC (nI ecd9_58) aTp (nI ez) (nI ep9_59) (nI em9_60)), (zaI aTp cTp 100 fTp), (zaI eC ceC 100 feC9_61)]) [0, 1, 2] rfl
      have hD9 := hD.sub (ws' := [(zo7iirrrririii bl esg (nI ecl) eW eA eE eC (nI ecd9_58) aTp (nI ez) (nI ep9_59) (nI em9_60)), (zaI aTp cTp 100 fTp), (zaI eC ceC 100 feC9_61)]) [0, 1, 2] (by decide) rfl
      have hK9 := hK.sub (tys' := [(cTp, .int), (ceC, .int)]) [0, 1] rfl
      exact W.zret (v := r_56) hx hb hr (by first | rfl | (rcases hw_57 with ⟨e9, _⟩ | ⟨e9, _⟩ <;> rw [e9] <;> rfl)) (fun tQ htQ hWQ => ⟨⟨r_56, (ecd9_58, ep9_59, em9_60, feC9_61), rfl, by rw [show pFac ss 5 ep = pTest ss ep from pf_t hn33 hn40]; exact hw_57, by rw [htQ]; exact hP9, va_K.moved hWQ.alike hK9, hD9⟩, hS.F htQ⟩) hS.2.2 dX5_readPlain_21

theorem kc_xBoth0_0 : ∀ w ∈ wsX50, w ∈ wsX5_readBoth := fun w h => List.mem_cons_of_mem _ (gin_wsX50 w h)
theorem kc_xBoth0_1 : (.fieldLink RX5 31 "MistHeaps$Hill" "size" "I" : Cond) ∈ wsX5_readBoth := kc_of 123 rfl rfl rfl
set_option maxHeartbeats 4000000 in
set_option maxRecDepth 100000 in
theorem c_xBoth0 (l : Launch) (dC : Nat → ClassId) (dI : Nat → Nat → Nat) (sK sV : Nat → Nat) (bl : Nat) (aTp : Nat) (eW : Nat) (eA : Nat) (eE : Nat) (eC : Nat) (ecl : Nat) (ecd : Nat) (esg : Int32) (cTp : ClassId) (ceC : ClassId) (fTp : Nat → Int32) (feC : Nat → Int32) (ez : Nat) (ep : Nat) (em : Nat) (ss : Nat → Nat) (kt : List Nat) (sz : Nat) (hez : ez ≤ 100) (hep : ep ≤ ez) (hem : em ≤ 99) (hXT : XT feC ecd kt ep) (zeC : ∀ k0, k0 < 100 → okC (feC k0)) (gX : TX fTp ez ss) : Met l yX5_readBoth wsX5_readBoth ({ frames := 21, cells := 0, slots := 0, locals := 465 } : Room) (va_Pc [.ref bl, .int 0] (fun U => U.heap.size = sz ∧ va_P (dC, dI) vwCl [(zo7iirrrririii bl esg (nI ecl) eW eA eE eC (nI ecd) aTp (nI ez) (nI ep) (nI em)), (zaI aTp cTp 100 fTp), (zaI eC ceC 100 feC)] U.heap ∧ va_K (dC, dI) vwCl [(cTp, .int), (ceC, .int)] U ∧ va_D (fun _ => True) [(zo7iirrrririii bl esg (nI ecl) eW eA eE eC (nI ecd) aTp (nI ez) (nI ep) (nI em)), (zaI aTp cTp 100 fTp), (zaI eC ceC 100 feC)] ∧ Gs sK sV (va_A [(zo7iirrrririii bl esg (nI ecl) eW eA eE eC (nI ecd) aTp (nI ez) (nI ep) (nI em)), (zaI aTp cTp 100 fTp), (zaI eC ceC 100 feC)] sz) U)) (va_Qi (fun (r : Int32) (u : (Nat) × (Nat) × (Nat) × (Nat → Int32)) => match u with | (ecd9, ep9, em9, feC9) => (r = 1 ∧ ∃ L0 : List Nat, pEv ss (pFac ss 5) ep = (some L0, ep9) ∧ ep + 3 ≤ ep9 ∧ ep9 ≤ ez ∧ em9 ≤ 99 ∧ L0.length + ep ≤ ep9 ∧ XT feC9 ecd9 (kt ++ L0) ep9 ∧ ∀ k0, k0 < 100 → okC (feC9 k0)) ∨ (r = 0 ∧ pEv ss (pFac ss 5) ep = (none, ep9) ∧ ep9 ≤ ez + 2 ∧ em9 ≤ 99 ∧ ecd9 ≤ 100 ∧ ∀ k0, k0 < 100 → okC (feC9 k0))) (fun (u : (Nat) × (Nat) × (Nat) × (Nat → Int32)) (t : State) => match u with | (ecd9, ep9, em9, feC9) => va_P (dC, dI) vwCl [(zo7iirrrririii bl esg (nI ecl) eW eA eE eC (nI ecd9) aTp (nI ez) (nI ep9) (nI em9)), (zaI aTp cTp 100 fTp), (zaI eC ceC 100 feC9)] t.heap ∧ va_K (dC, dI) vwCl [(cTp, .int), (ceC, .int)] t ∧ va_D (va_A [(zo7iirrrririii bl esg (nI ecl) eW eA eE eC (nI ecd) aTp (nI ez) (nI ep) (nI em)), (zaI aTp cTp 100 fTp), (zaI eC ceC 100 feC)] sz) [(zo7iirrrririii bl esg (nI ecl) eW eA eE eC (nI ecd9) aTp (nI ez) (nI ep9) (nI em9)), (zaI aTp cTp 100 fTp), (zaI eC ceC 100 feC9)]) (va_A [(zo7iirrrririii bl esg (nI ecl) eW eA eE eC (nI ecd) aTp (nI ez) (nI ep) (nI em)), (zaI aTp cTp 100 fTp), (zaI eC ceC 100 feC)] sz)) 0 0 (va_A [(zo7iirrrririii bl esg (nI ecl) eW eA eE eC (nI ecd) aTp (nI ez) (nI ep) (nI em)), (zaI aTp cTp 100 fTp), (zaI eC ceC 100 feC)] sz) := by
  refine met_ofQ (cc := cX5_readBoth) (maxL := 3) (ret := (some .boolean)) (by decide) rfl ?_
  intro p e s m args below meth c s₁ Q B hml hv hQ
  obtain ⟨rfl, hsz, hP, hK, hD0, hE⟩ := hv
  have hx := B.exec
  have hb := B.bytes
  have hr := B.returns
  have hts := atoms_spec (ws := wsX5_readBoth) B.pre
  have hown : s.vm.findClass RX5 = some m.cls := findClass_of_methodNamed B.named
  have hlocks := B.notSynchronized
  subst hsz
  have hD := hD0.self (sz := s.heap.size)
  generalize hAe : va_A [(zo7iirrrririii bl esg (nI ecl) eW eA eE eC (nI ecd) aTp (nI ez) (nI ep) (nI em)), (zaI aTp cTp 100 fTp), (zaI eC ceC 100 feC)] s.heap.size = A at hD hQ hE ⊢
  have hA : ∀ q : Nat, s.heap.size ≤ q → A q := fun q h => by rw [← hAe]; exact Or.inr h
  have hS : va_S A s.heap s.heap [] := va_S.rf
  have hl := lv_entry [.ref bl, .int 0] (n := 3) (Nat.le_of_ble_eq_true rfl)
  rw [lg_entry_eq]
  generalize (lg_sl [.ref bl, .int 0] ++ List.replicate (3 - (lg_sl [.ref bl, .int 0]).length) Slot.unset).toArray = ls at hl ⊢
  generalize hag : ([.ref bl, .int 0] : List Value).toArray = args at hts hQ ⊢
  have hl : lv_has ls 3 [(0, .ref bl), (1, .int 0)] := hl
  obtain ⟨H, hH⟩ : ∃ H : Heap, H = s.heap := ⟨_, rfl⟩
  rw [← hH] at hP
  rw [← hH]
  have hS : va_S A s.heap H [] := by rw [hH]; exact hS
  obtain ⟨locs, hlo⟩ : ∃ L : List Loc, L = [] := ⟨_, rfl⟩
  rw [← hlo] at hS
  rw [← hlo]
  clear hH hlo
  refine lv_aload_n hx hb dX5_readBoth_0 rfl (lv_at hl 0 rfl) ?_
  refine lv_iload_n hx hb dX5_readBoth_1 rfl (lv_at hl 1 rfl) ?_
  have hPc := hP.sub (ws' := [(zo7iirrrririii bl esg (nI ecl) eW eA eE eC (nI ecd) aTp (nI ez) (nI ep) (nI em)), (zaI aTp cTp 100 fTp), (zaI eC ceC 100 feC)]) [0, 1, 2] rfl
  have hDc := hD.sub (ws' := [(zo7iirrrririii bl esg (nI ecl) eW eA eE eC (nI ecd) aTp (nI ez) (nI ep) (nI em)), (zaI aTp cTp 100 fTp), (zaI eC ceC 100 feC)]) [0, 1, 2] (by decide) rfl
  have hKc := hK.sub (tys' := [(cTp, .int), (ceC, .int)]) [0, 1] rfl
  have hFc := va_free (wc := [(zo7iirrrririii bl esg (nI ecl) eW eA eE eC (nI ecd) aTp (nI ez) (nI ep) (nI em)), (zaI aTp cTp 100 fTp), (zaI eC ceC 100 feC)]) hD hS hA [0, 1, 2] rfl
  refine va_calli (va_runV (As := [.int 0]) (rest := []) ⟨hx, hb, hml, hown, hts⟩ (c_xPlain0 l dC dI sK sV bl aTp eW eA eE eC ecl ecd esg cTp ceC fTp feC ez ep em ss kt H.size (hez) (by omega) (by omega) ((hXT).mono (by omega)) (zeC) (gX)) (cwV 1 hts gX5_readBoth_X5_readPlain rfl rfl rfl hd_yX5_readPlain ⟨Nat.le_of_ble_eq_true rfl, Nat.le_of_ble_eq_true rfl⟩) ⟨fun a U g mk q => by obtain ⟨q0, q1, qP, qK, qD, qhE⟩ := q; exact ⟨q0, mvz g mk a q1, mvP g mk a qP, mvK g mk a qK, qD, qhE.mv g mk a⟩, va_recv hK hP (ci := 7) (q := (RX5, TX5, 11)) (q0 := 0) rfl rfl, fun U hU hW => ⟨rfl, by rw [hU], by rw [hU]; exact hPc, va_K.moved hW.alike hKc, hDc.weaken (fun _ _ _ _ => trivial), hE.call hS hU hW (fun q h => hFc q h)⟩⟩ rfl rfl hl.1 rfl (lv_room (Nat.le_of_ble_eq_true rfl)) dX5_readBoth_2 ⟨Nat.le_of_ble_eq_true rfl, Nat.le_of_ble_eq_true rfl⟩) hS (fun q _ h => hFc q h) hFc (fun r_1 u tC H1 locs htC hvm hw_2 hB hz1 hk1 hS => ?_)
  obtain ⟨ecd9_3, ep9_4, em9_5, feC9_6⟩ := u
  try dsimp only at hw_2 hB
  obtain ⟨hP1, hK1, hD1⟩ := hB
  rw [htC] at hP1
  have hK1 := va_K.moved hvm.symm hK1
  obtain ⟨hP, hD⟩ := va_join (wr := []) (w1 := [(zo7iirrrririii bl esg (nI ecl) eW eA eE eC (nI ecd9_3) aTp (nI ez) (nI ep9_4) (nI em9_5)), (zaI aTp cTp 100 fTp), (zaI eC ceC 100 feC9_6)]) hP hD [0, 1, 2] [] rfl rfl (by decide) (by decide) hk1 hFc hP1 hD1
  have hK := (hK.sub (tys' := []) [] rfl).app hK1
  generalize H1 = H at hP hS ⊢
  have hP : va_P (dC, dI) vwCl [(zo7iirrrririii bl esg (nI ecl) eW eA eE eC (nI ecd9_3) aTp (nI ez) (nI ep9_4) (nI em9_5)), (zaI aTp cTp 100 fTp), (zaI eC ceC 100 feC9_6)] H := hP
  have hD : va_D A [(zo7iirrrririii bl esg (nI ecl) eW eA eE eC (nI ecd9_3) aTp (nI ez) (nI ep9_4) (nI em9_5)), (zaI aTp cTp 100 fTp), (zaI eC ceC 100 feC9_6)] := hD
  have hK : va_K (dC, dI) vwCl [(cTp, .int), (ceC, .int)] s := hK
  rcases hw_2 with ⟨rfl, L_7, eP_8, h_9, h_10, h_11, h_12, hX_14, hC_13⟩ | ⟨rfl, eP_8, h_9, h_10, h_11, hC_13⟩
  · skip
    refine lv_if_ne (tgt := 10) hx hb dX5_readBoth_5 (by decide) (fun _ => ?_) (fun c_15 => absurd c_15 (by decide))
    refine lv_iconst (v := 0) hx hb dX5_readBoth_10 (by decide) ?_
    refine lv_istore_n (lv' := [(2, .int 0), (0, .ref bl), (1, .int 0)]) hx hb dX5_readBoth_11 rfl hl (by decide) rfl (fun ls hl => ?_)
    have L12 : ∀ (nF : Nat) (i : Nat) (ecd2 : Nat) (ep2 : Nat) (em2 : Nat) (feC2 : Nat → Int32) (L1 : List Nat) (m1 : Nat), ez - i < nF → (i ≤ ez) → (pEv ss (pFac ss 5) ep = pSep ss 38 1802 (pFac ss 5) m1 (some L1, ep2) ∧ 101 ≤ m1 + ep2) → (ep + 3 + 2 * i ≤ ep2 ∧ ep2 ≤ ez ∧ em2 ≤ 99) → (L1.length + ep ≤ ep2) → (XT feC2 ecd2 (kt ++ L1) ep2) → (∀ k0, k0 < 100 → okC (feC2 k0)) → ∀ (H : Heap) (locs : List Loc), va_K (dC, dI) vwCl [(cTp, .int), (ceC, .int)] s → va_P (dC, dI) vwCl [(zo7iirrrririii bl esg (nI ecl) eW eA eE eC (nI ecd2) aTp (nI ez) (nI ep2) (nI em2)), (zaI aTp cTp 100 fTp), (zaI eC ceC 100 feC2)] H → va_D A [(zo7iirrrririii bl esg (nI ecl) eW eA eE eC (nI ecd2) aTp (nI ez) (nI ep2) (nI em2)), (zaI aTp cTp 100 fTp), (zaI eC ceC 100 feC2)] → va_S A s.heap H locs → ∀ (ls : Array Slot), lv_has ls 3 [(0, .ref bl), (1, .int 0), (2, .int (nI i))] → W p l e ({ frames := 21, cells := 0, slots := 0, locals := 465 } : Room) s m args below meth c H locs 0 0 Q (F0 m 12 ls []) := by
      intro nF
      induction nF with
      | zero => intro i ecd2 ep2 em2 feC2 L1 m1 hm; exact absurd hm (Nat.not_lt_zero _)
      | succ nF ih12 =>
        intro i ecd2 ep2 em2 feC2 L1 m1 hm hii hE9 hp2 hL2 hX2 zC2 H locs hK hP hD hS ls hl
        obtain ⟨hE9, hm9⟩ := hE9
        obtain ⟨hp2a, hp2b, hp2c⟩ := hp2
        refine lv_iload_n hx hb dX5_readBoth_12 rfl (lv_at hl 2 rfl) ?_
        refine lv_aload_n hx hb dX5_readBoth_13 rfl (lv_at hl 0 rfl) ?_
        refine va_get (D := (dC, dI)) (ci := 7) (v := .int (nI ez)) (C := RX5) (T := TX5) (N := 11) hx hb hts kc_xBoth0_0 hown hK hP 0 rfl rfl 8 (by decide) (hts (.fieldLink RX5 31 "MistHeaps$Hill" "size" "I") kc_xBoth0_1) (fun _ h9 => h9) rfl dX5_readBoth_14 ?_
        refine lv_icmp_ge (tgt := 51) hx hb dX5_readBoth_17 (by decide) (fun c_16 => ?_) (fun c_16 => ?_)
        · skip
          have c_16 : ez ≤ i := (nI_leI (a := ez) (b := i) (by omega) (by omega)).mp c_16
          refine lv_iconst (v := 1) hx hb dX5_readBoth_51 (by decide) ?_
          rw [hQ]
          have hP9 := hP.sub (ws' := [(zo7iirrrririii bl esg (nI ecl) eW eA eE eC (nI ecd2) aTp (nI ez) (nI ep2) (nI em2)), (zaI aTp cTp 100 fTp), (zaI eC ceC 100 feC2)]) [0, 1, 2] rfl
          have hD9 := hD.sub (ws' := [(zo7iirrrririii bl esg (nI ecl) eW eA eE eC (nI ecd2) aTp (nI ez) (nI ep2) (nI em2)), (zaI aTp cTp 100 fTp), (zaI eC ceC 100 feC2)]) [0, 1, 2] (by decide) rfl
          have hK9 := hK.sub (tys' := [(cTp, .int), (ceC, .int)]) [0, 1] rfl
          exact W.zret (v := 1) hx hb hr rfl (fun tQ htQ hWQ => ⟨⟨1, (ecd2, ep2, em2, feC2), rfl, Or.inl ⟨rfl, L1, hE9.trans (ps_end (fun z => by have := gX.2.1 ep2 (by omega); omega)), by omega, by omega, by omega, by (try simp only [List.length_append, List.length_cons, List.length_nil]); omega, hX2, zC2⟩, by rw [htQ]; exact hP9, va_K.moved hWQ.alike hK9, hD9⟩, hS.F htQ⟩) hS.2.2 dX5_readBoth_52
        · skip
          have c_16 : ¬ ez ≤ i := fun q => c_16 ((nI_leI (a := ez) (b := i) (by omega) (by omega)).mpr q)
          refine lv_aload_n hx hb dX5_readBoth_20 rfl (lv_at hl 0 rfl) ?_
          refine lv_bipush (v := 38) hx hb dX5_readBoth_21 (by decide) ?_
          have hPc := hP.sub (ws' := [(zo7iirrrririii bl esg (nI ecl) eW eA eE eC (nI ecd2) aTp (nI ez) (nI ep2) (nI em2)), (zaI aTp cTp 100 fTp)]) [0, 1] rfl
          have hDc := hD.sub (ws' := [(zo7iirrrririii bl esg (nI ecl) eW eA eE eC (nI ecd2) aTp (nI ez) (nI ep2) (nI em2)), (zaI aTp cTp 100 fTp)]) [0, 1] (by decide) rfl
          have hKc := hK.sub (tys' := [(cTp, .int)]) [0] rfl
          have hFc := va_free (wc := [(zo7iirrrririii bl esg (nI ecl) eW eA eE eC (nI ecd2) aTp (nI ez) (nI ep2) (nI em2)), (zaI aTp cTp 100 fTp)]) hD hS hA [0, 1] rfl
          refine va_calli (va_runV (As := [.int 38]) (rest := []) ⟨hx, hb, hml, hown, hts⟩ (c_xReadSign l dC dI bl aTp eW eA eE eC 38 ecl ecd2 esg cTp fTp ez ep2 em2 ss H.size (hez) (by omega) (by decide) (by decide) (gX)) (cwV 1 hts gX5_readBoth_X5_readSign rfl rfl rfl hd_yX5_readSign ⟨Nat.le_of_ble_eq_true rfl, Nat.le_of_ble_eq_true rfl⟩) ⟨fun a U g mk q => by obtain ⟨q0, q1, qP, qK, qD⟩ := q; exact ⟨q0, mvz g mk a q1, mvP g mk a qP, mvK g mk a qK, qD⟩, va_recv hK hP (ci := 7) (q := (RX5, TX5, 11)) (q0 := 0) rfl rfl, fun U hU hW => ⟨rfl, by rw [hU], by rw [hU]; exact hPc, va_K.moved hW.alike hKc, hDc.weaken (fun _ _ _ _ => trivial)⟩⟩ rfl rfl hl.1 rfl (lv_room (Nat.le_of_ble_eq_true rfl)) dX5_readBoth_23 ⟨Nat.le_of_ble_eq_true rfl, Nat.le_of_ble_eq_true rfl⟩) hS (fun q _ h => hFc q h) hFc (fun r_17 u tC H1 locs htC hvm hw_18 hB hz1 hk1 hS => ?_)
          obtain ⟨ep9_19, rfl⟩ : ∃ z, z = u := ⟨_, rfl⟩
          try dsimp only at hw_18 hB
          obtain ⟨hP1, hK1, hD1⟩ := hB
          rw [htC] at hP1
          have hK1 := va_K.moved hvm.symm hK1
          obtain ⟨hP, hD⟩ := va_join (wr := [(zaI eC ceC 100 feC2)]) (w1 := [(zo7iirrrririii bl esg (nI ecl) eW eA eE eC (nI ecd2) aTp (nI ez) (nI ep9_19) (nI em2)), (zaI aTp cTp 100 fTp)]) hP hD [0, 1] [2] rfl rfl (by decide) (by decide) hk1 hFc hP1 hD1
          have hK := (hK.sub (tys' := [(ceC, .int)]) [1] rfl).app hK1
          generalize H1 = H at hP hS ⊢
          have hP : va_P (dC, dI) vwCl [(zaI eC ceC 100 feC2), (zo7iirrrririii bl esg (nI ecl) eW eA eE eC (nI ecd2) aTp (nI ez) (nI ep9_19) (nI em2)), (zaI aTp cTp 100 fTp)] H := hP
          have hD : va_D A [(zaI eC ceC 100 feC2), (zo7iirrrririii bl esg (nI ecl) eW eA eE eC (nI ecd2) aTp (nI ez) (nI ep9_19) (nI em2)), (zaI aTp cTp 100 fTp)] := hD
          have hK : va_K (dC, dI) vwCl [(ceC, .int), (cTp, .int)] s := hK
          rcases hw_18 with ⟨rfl, hy9, h_20, e_21⟩ | ⟨rfl, hn9, e_21⟩
          · skip
            obtain rfl := (e_21).symm
            obtain ⟨m2, rfl⟩ : ∃ q : Nat, m1 = q + 1 := ⟨m1 - 1, by omega⟩
            refine lv_if_eq (tgt := 51) hx hb dX5_readBoth_26 (by decide) (fun c_22 => absurd c_22 (by decide)) (fun _ => ?_)
            refine lv_aload_n hx hb dX5_readBoth_29 rfl (lv_at hl 0 rfl) ?_
            refine lv_iload_n hx hb dX5_readBoth_30 rfl (lv_at hl 1 rfl) ?_
            have hPc := hP.sub (ws' := [(zo7iirrrririii bl esg (nI ecl) eW eA eE eC (nI ecd2) aTp (nI ez) (nI (ep2 + 1)) (nI em2)), (zaI aTp cTp 100 fTp), (zaI eC ceC 100 feC2)]) [1, 2, 0] rfl
            have hDc := hD.sub (ws' := [(zo7iirrrririii bl esg (nI ecl) eW eA eE eC (nI ecd2) aTp (nI ez) (nI (ep2 + 1)) (nI em2)), (zaI aTp cTp 100 fTp), (zaI eC ceC 100 feC2)]) [1, 2, 0] (by decide) rfl
            have hKc := hK.sub (tys' := [(cTp, .int), (ceC, .int)]) [1, 0] rfl
            have hFc := va_free (wc := [(zo7iirrrririii bl esg (nI ecl) eW eA eE eC (nI ecd2) aTp (nI ez) (nI (ep2 + 1)) (nI em2)), (zaI aTp cTp 100 fTp), (zaI eC ceC 100 feC2)]) hD hS hA [1, 2, 0] rfl
            refine va_calli (va_runV (As := [.int 0]) (rest := []) ⟨hx, hb, hml, hown, hts⟩ (c_xPlain0 l dC dI sK sV bl aTp eW eA eE eC ecl ecd2 esg cTp ceC fTp feC2 ez (ep2 + 1) em2 ss (kt ++ L1) H.size (hez) (by omega) (by omega) ((hX2).mono (by omega)) (zC2) (gX)) (cwV 1 hts gX5_readBoth_X5_readPlain rfl rfl rfl hd_yX5_readPlain ⟨Nat.le_of_ble_eq_true rfl, Nat.le_of_ble_eq_true rfl⟩) ⟨fun a U g mk q => by obtain ⟨q0, q1, qP, qK, qD, qhE⟩ := q; exact ⟨q0, mvz g mk a q1, mvP g mk a qP, mvK g mk a qK, qD, qhE.mv g mk a⟩, va_recv hK hP (ci := 7) (q := (RX5, TX5, 11)) (q0 := 1) rfl rfl, fun U hU hW => ⟨rfl, by rw [hU], by rw [hU]; exact hPc, va_K.moved hW.alike hKc, hDc.weaken (fun _ _ _ _ => trivial), hE.call hS hU hW (fun q h => hFc q h)⟩⟩ rfl rfl hl.1 rfl (lv_room (Nat.le_of_ble_eq_true rfl)) dX5_readBoth_31 ⟨Nat.le_of_ble_eq_true rfl, Nat.le_of_ble_eq_true rfl⟩) hS (fun q _ h => hFc q h) hFc (fun r_23 u tC H1 locs htC hvm hw_24 hB hz1 hk1 hS => ?_)
            obtain ⟨ecd9_25, ep9_26, em9_27, feC9_28⟩ := u
            try dsimp only at hw_24 hB
            obtain ⟨hP1, hK1, hD1⟩ := hB
            rw [htC] at hP1
            have hK1 := va_K.moved hvm.symm hK1
            obtain ⟨hP, hD⟩ := va_join (wr := []) (w1 := [(zo7iirrrririii bl esg (nI ecl) eW eA eE eC (nI ecd9_25) aTp (nI ez) (nI ep9_26) (nI em9_27)), (zaI aTp cTp 100 fTp), (zaI eC ceC 100 feC9_28)]) hP hD [1, 2, 0] [] rfl rfl (by decide) (by decide) hk1 hFc hP1 hD1
            have hK := (hK.sub (tys' := []) [] rfl).app hK1
            generalize H1 = H at hP hS ⊢
            have hP : va_P (dC, dI) vwCl [(zo7iirrrririii bl esg (nI ecl) eW eA eE eC (nI ecd9_25) aTp (nI ez) (nI ep9_26) (nI em9_27)), (zaI aTp cTp 100 fTp), (zaI eC ceC 100 feC9_28)] H := hP
            have hD : va_D A [(zo7iirrrririii bl esg (nI ecl) eW eA eE eC (nI ecd9_25) aTp (nI ez) (nI ep9_26) (nI em9_27)), (zaI aTp cTp 100 fTp), (zaI eC ceC 100 feC9_28)] := hD
            have hK : va_K (dC, dI) vwCl [(cTp, .int), (ceC, .int)] s := hK
            rcases hw_24 with ⟨rfl, L_29, eP_30, h_31, h_32, h_33, h_34, hX_36, hC_35⟩ | ⟨rfl, eP_30, h_31, h_32, h_33, hC_35⟩
            · skip
              refine lv_if_ne (tgt := 39) hx hb dX5_readBoth_34 (by decide) (fun _ => ?_) (fun c_37 => absurd c_37 (by decide))
              refine lv_aload_n hx hb dX5_readBoth_39 rfl (lv_at hl 0 rfl) ?_
              refine lv_bipush (v := (-2)) hx hb dX5_readBoth_40 (by decide) ?_
              have hPc := hP.sub (ws' := [(zo7iirrrririii bl esg (nI ecl) eW eA eE eC (nI ecd9_25) aTp (nI ez) (nI ep9_26) (nI em9_27)), (zaI eC ceC 100 feC9_28)]) [0, 2] rfl
              have hDc := hD.sub (ws' := [(zo7iirrrririii bl esg (nI ecl) eW eA eE eC (nI ecd9_25) aTp (nI ez) (nI ep9_26) (nI em9_27)), (zaI eC ceC 100 feC9_28)]) [0, 2] (by decide) rfl
              have hKc := hK.sub (tys' := [(ceC, .int)]) [1] rfl
              have hFc := va_free (wc := [(zo7iirrrririii bl esg (nI ecl) eW eA eE eC (nI ecd9_25) aTp (nI ez) (nI ep9_26) (nI em9_27)), (zaI eC ceC 100 feC9_28)]) hD hS hA [0, 2] rfl
              refine va_callv (va_runV (As := [.int (-2)]) (rest := []) ⟨hx, hb, hml, hown, hts⟩ (c_xCode l dC dI bl aTp eW eA eE eC ecl ecd9_25 (-2) esg ceC feC9_28 ez ep9_26 em9_27 ((kt ++ L1) ++ L_29) 1802 H.size ((hX_36).mono (by omega)) (by have h6 := (hX_36).1; have h7 := (hX_36).2.1; have h8 := hXT.1; have h9 := hXT.2.1; (try simp only [List.length_append] at h6); omega) (hC_35) (Or.inr (Or.inl rfl)) (by decide)) (cwV 1 hts gX5_readBoth_X5_code rfl rfl rfl hd_yX5_code ⟨Nat.le_of_ble_eq_true rfl, Nat.le_of_ble_eq_true rfl⟩) ⟨fun a U g mk q => by obtain ⟨q0, q1, qP, qK, qD⟩ := q; exact ⟨q0, mvz g mk a q1, mvP g mk a qP, mvK g mk a qK, qD⟩, va_recv hK hP (ci := 7) (q := (RX5, TX5, 11)) (q0 := 0) rfl rfl, fun U hU hW => ⟨rfl, by rw [hU], by rw [hU]; exact hPc, va_K.moved hW.alike hKc, hDc.weaken (fun _ _ _ _ => trivial)⟩⟩ rfl rfl hl.1 rfl (lv_room (Nat.le_of_ble_eq_true rfl)) dX5_readBoth_42 ⟨Nat.le_of_ble_eq_true rfl, Nat.le_of_ble_eq_true rfl⟩) hS (fun q _ h => hFc q h) hFc (fun u tC H1 locs htC hvm hw_39 hB hz1 hk1 hS => ?_)
              obtain ⟨ecd9_40, feC9_41⟩ := u
              try dsimp only at hw_39 hB
              obtain ⟨hP1, hK1, hD1⟩ := hB
              rw [htC] at hP1
              have hK1 := va_K.moved hvm.symm hK1
              obtain ⟨hP, hD⟩ := va_join (wr := [(zaI aTp cTp 100 fTp)]) (w1 := [(zo7iirrrririii bl esg (nI ecl) eW eA eE eC (nI ecd9_40) aTp (nI ez) (nI ep9_26) (nI em9_27)), (zaI eC ceC 100 feC9_41)]) hP hD [0, 2] [1] rfl rfl (by decide) (by decide) hk1 hFc hP1 hD1
              have hK := (hK.sub (tys' := [(cTp, .int)]) [0] rfl).app hK1
              generalize H1 = H at hP hS ⊢
              have hP : va_P (dC, dI) vwCl [(zaI aTp cTp 100 fTp), (zo7iirrrririii bl esg (nI ecl) eW eA eE eC (nI ecd9_40) aTp (nI ez) (nI ep9_26) (nI em9_27)), (zaI eC ceC 100 feC9_41)] H := hP
              have hD : va_D A [(zaI aTp cTp 100 fTp), (zo7iirrrririii bl esg (nI ecl) eW eA eE eC (nI ecd9_40) aTp (nI ez) (nI ep9_26) (nI em9_27)), (zaI eC ceC 100 feC9_41)] := hD
              have hK : va_K (dC, dI) vwCl [(cTp, .int), (ceC, .int)] s := hK
              obtain ⟨e_42, hC_43, h_44⟩ := hw_39
              obtain rfl := (e_42).symm
              have hX_45 : XT feC9_41 (ecd9_25 + 1) (((kt ++ L1) ++ L_29) ++ [1802]) (ep9_26) := ⟨by rw [List.length_append, (hX_36).1]; rfl, by have h6 := (hX_36).1; have h7 := (hX_36).2.1; have h8 := hXT.1; have h9 := hXT.2.1; (try simp only [List.length_append] at h6); omega, h_44⟩
              refine lv_iinc (v := nI (i + 1)) (lv' := [(2, .int (nI (i + 1))), (0, .ref bl), (1, .int 0)]) hx hb dX5_readBoth_45 hl (k := 2) rfl (nI_add i 1) (by decide) rfl (fun ls hl => ?_)
              refine lv_goto (tgt := 12) hx hb dX5_readBoth_48 (by decide) ?_
              exact ih12 (i + 1) _ _ _ _ (L1 ++ (L_29 ++ [1802])) (m2) (by omega) (by omega) (⟨hE9.trans (ps_go hy9 eP_30), by omega⟩) (by omega) (by simp only [List.length_append, List.length_cons, List.length_nil]; omega) (XT.as (XT.as (hX_45))) (hC_43) _ _ (hK.sub [0, 1] rfl) (hP.sub [1, 0, 2] rfl) (hD.sub [1, 0, 2] (by decide) rfl) hS ls (lv_sub hl [1, 2, 0] rfl)
            · skip
              refine lv_if_ne (tgt := 39) hx hb dX5_readBoth_34 (by decide) (fun c_46 => absurd c_46 (by decide)) (fun _ => ?_)
              refine lv_iconst (v := 0) hx hb dX5_readBoth_37 (by decide) ?_
              rw [hQ]
              have hP9 := hP.sub (ws' := [(zo7iirrrririii bl esg (nI ecl) eW eA eE eC (nI ecd9_25) aTp (nI ez) (nI ep9_26) (nI em9_27)), (zaI aTp cTp 100 fTp), (zaI eC ceC 100 feC9_28)]) [0, 1, 2] rfl
              have hD9 := hD.sub (ws' := [(zo7iirrrririii bl esg (nI ecl) eW eA eE eC (nI ecd9_25) aTp (nI ez) (nI ep9_26) (nI em9_27)), (zaI aTp cTp 100 fTp), (zaI eC ceC 100 feC9_28)]) [0, 1, 2] (by decide) rfl
              have hK9 := hK.sub (tys' := [(cTp, .int), (ceC, .int)]) [0, 1] rfl
              exact W.zret (v := 0) hx hb hr rfl (fun tQ htQ hWQ => ⟨⟨0, (ecd9_25, ep9_26, em9_27, feC9_28), rfl, Or.inr ⟨rfl, hE9.trans (ps_bad hy9 eP_30), by omega, by omega, by first | omega | (have := (hXT).2.1; omega), hC_35⟩, by rw [htQ]; exact hP9, va_K.moved hWQ.alike hK9, hD9⟩, hS.F htQ⟩) hS.2.2 dX5_readBoth_38
          · skip
            obtain rfl := (e_21).symm
            refine lv_if_eq (tgt := 51) hx hb dX5_readBoth_26 (by decide) (fun _ => ?_) (fun c_47 => absurd c_47 (by decide))
            refine lv_iconst (v := 1) hx hb dX5_readBoth_51 (by decide) ?_
            rw [hQ]
            have hP9 := hP.sub (ws' := [(zo7iirrrririii bl esg (nI ecl) eW eA eE eC (nI ecd2) aTp (nI ez) (nI ep2) (nI em2)), (zaI aTp cTp 100 fTp), (zaI eC ceC 100 feC2)]) [1, 2, 0] rfl
            have hD9 := hD.sub (ws' := [(zo7iirrrririii bl esg (nI ecl) eW eA eE eC (nI ecd2) aTp (nI ez) (nI ep2) (nI em2)), (zaI aTp cTp 100 fTp), (zaI eC ceC 100 feC2)]) [1, 2, 0] (by decide) rfl
            have hK9 := hK.sub (tys' := [(cTp, .int), (ceC, .int)]) [1, 0] rfl
            exact W.zret (v := 1) hx hb hr rfl (fun tQ htQ hWQ => ⟨⟨1, (ecd2, ep2, em2, feC2), rfl, Or.inl ⟨rfl, L1, hE9.trans (ps_end hn9), by omega, by omega, by omega, by (try simp only [List.length_append, List.length_cons, List.length_nil]); omega, hX2, zC2⟩, by rw [htQ]; exact hP9, va_K.moved hWQ.alike hK9, hD9⟩, hS.F htQ⟩) hS.2.2 dX5_readBoth_52
    exact L12 _ (0) _ _ _ _ (L_7) (101) (Nat.lt_succ_self _) (by omega) (⟨pEv_s eP_8, by omega⟩) (by omega) (by omega) (hX_14) (hC_13) _ _ (hK.sub [0, 1] rfl) (hP.sub [0, 1, 2] rfl) (hD.sub [0, 1, 2] (by decide) rfl) hS ls (lv_sub hl [1, 2, 0] rfl)
  · skip
    refine lv_if_ne (tgt := 10) hx hb dX5_readBoth_5 (by decide) (fun c_48 => absurd c_48 (by decide)) (fun _ => ?_)
    refine lv_iconst (v := 0) hx hb dX5_readBoth_8 (by decide) ?_
    rw [hQ]
    have hP9 := hP.sub (ws' := [(zo7iirrrririii bl esg (nI ecl) eW eA eE eC (nI ecd9_3) aTp (nI ez) (nI ep9_4) (nI em9_5)), (zaI aTp cTp 100 fTp), (zaI eC ceC 100 feC9_6)]) [0, 1, 2] rfl
    have hD9 := hD.sub (ws' := [(zo7iirrrririii bl esg (nI ecl) eW eA eE eC (nI ecd9_3) aTp (nI ez) (nI ep9_4) (nI em9_5)), (zaI aTp cTp 100 fTp), (zaI eC ceC 100 feC9_6)]) [0, 1, 2] (by decide) rfl
    have hK9 := hK.sub (tys' := [(cTp, .int), (ceC, .int)]) [0, 1] rfl
    exact W.zret (v := 0) hx hb hr rfl (fun tQ htQ hWQ => ⟨⟨0, (ecd9_3, ep9_4, em9_5, feC9_6), rfl, Or.inr ⟨rfl, pEv_n eP_8, by omega, by omega, by first | omega | (have := (hXT).2.1; omega), hC_13⟩, by rw [htQ]; exact hP9, va_K.moved hWQ.alike hK9, hD9⟩, hS.F htQ⟩) hS.2.2 dX5_readBoth_9

theorem kc_xEither0_0 : ∀ w ∈ wsX50, w ∈ wsX5_readEither := fun w h => List.mem_cons_of_mem _ (gin_wsX50 w h)
theorem kc_xEither0_1 : (.fieldLink RX5 31 "MistHeaps$Hill" "size" "I" : Cond) ∈ wsX5_readEither := kc_of 123 rfl rfl rfl
set_option maxHeartbeats 4000000 in
set_option maxRecDepth 100000 in
theorem c_xEither0 (l : Launch) (dC : Nat → ClassId) (dI : Nat → Nat → Nat) (sK sV : Nat → Nat) (bl : Nat) (aTp : Nat) (eW : Nat) (eA : Nat) (eE : Nat) (eC : Nat) (ecl : Nat) (ecd : Nat) (esg : Int32) (cTp : ClassId) (ceC : ClassId) (fTp : Nat → Int32) (feC : Nat → Int32) (ez : Nat) (ep : Nat) (em : Nat) (ss : Nat → Nat) (kt : List Nat) (sz : Nat) (hez : ez ≤ 100) (hep : ep ≤ ez) (hem : em ≤ 99) (hXT : XT feC ecd kt ep) (zeC : ∀ k0, k0 < 100 → okC (feC k0)) (gX : TX fTp ez ss) : Met l yX5_readEither wsX5_readEither ({ frames := 22, cells := 0, slots := 0, locals := 487 } : Room) (va_Pc [.ref bl, .int 0] (fun U => U.heap.size = sz ∧ va_P (dC, dI) vwCl [(zo7iirrrririii bl esg (nI ecl) eW eA eE eC (nI ecd) aTp (nI ez) (nI ep) (nI em)), (zaI aTp cTp 100 fTp), (zaI eC ceC 100 feC)] U.heap ∧ va_K (dC, dI) vwCl [(cTp, .int), (ceC, .int)] U ∧ va_D (fun _ => True) [(zo7iirrrririii bl esg (nI ecl) eW eA eE eC (nI ecd) aTp (nI ez) (nI ep) (nI em)), (zaI aTp cTp 100 fTp), (zaI eC ceC 100 feC)] ∧ Gs sK sV (va_A [(zo7iirrrririii bl esg (nI ecl) eW eA eE eC (nI ecd) aTp (nI ez) (nI ep) (nI em)), (zaI aTp cTp 100 fTp), (zaI eC ceC 100 feC)] sz) U)) (va_Qi (fun (r : Int32) (u : (Nat) × (Nat) × (Nat) × (Nat → Int32)) => match u with | (ecd9, ep9, em9, feC9) => (r = 1 ∧ ∃ L0 : List Nat, pSm ss (pFac ss 5) ep = (some L0, ep9) ∧ ep + 3 ≤ ep9 ∧ ep9 ≤ ez ∧ em9 ≤ 99 ∧ L0.length + ep ≤ ep9 ∧ XT feC9 ecd9 (kt ++ L0) ep9 ∧ ∀ k0, k0 < 100 → okC (feC9 k0)) ∨ (r = 0 ∧ pSm ss (pFac ss 5) ep = (none, ep9) ∧ ep9 ≤ ez + 2 ∧ em9 ≤ 99 ∧ ecd9 ≤ 100 ∧ ∀ k0, k0 < 100 → okC (feC9 k0))) (fun (u : (Nat) × (Nat) × (Nat) × (Nat → Int32)) (t : State) => match u with | (ecd9, ep9, em9, feC9) => va_P (dC, dI) vwCl [(zo7iirrrririii bl esg (nI ecl) eW eA eE eC (nI ecd9) aTp (nI ez) (nI ep9) (nI em9)), (zaI aTp cTp 100 fTp), (zaI eC ceC 100 feC9)] t.heap ∧ va_K (dC, dI) vwCl [(cTp, .int), (ceC, .int)] t ∧ va_D (va_A [(zo7iirrrririii bl esg (nI ecl) eW eA eE eC (nI ecd) aTp (nI ez) (nI ep) (nI em)), (zaI aTp cTp 100 fTp), (zaI eC ceC 100 feC)] sz) [(zo7iirrrririii bl esg (nI ecl) eW eA eE eC (nI ecd9) aTp (nI ez) (nI ep9) (nI em9)), (zaI aTp cTp 100 fTp), (zaI eC ceC 100 feC9)]) (va_A [(zo7iirrrririii bl esg (nI ecl) eW eA eE eC (nI ecd) aTp (nI ez) (nI ep) (nI em)), (zaI aTp cTp 100 fTp), (zaI eC ceC 100 feC)] sz)) 0 0 (va_A [(zo7iirrrririii bl esg (nI ecl) eW eA eE eC (nI ecd) aTp (nI ez) (nI ep) (nI em)), (zaI aTp cTp 100 fTp), (zaI eC ceC 100 feC)] sz) := by
  refine met_ofQ (cc := cX5_readEither) (maxL := 3) (ret := (some .boolean)) (by decide) rfl ?_
  intro p e s m args below meth c s₁ Q B hml hv hQ
  obtain ⟨rfl, hsz, hP, hK, hD0, hE⟩ := hv
  have hx := B.exec
  have hb := B.bytes
  have hr := B.returns
  have hts := atoms_spec (ws := wsX5_readEither) B.pre
  have hown : s.vm.findClass RX5 = some m.cls := findClass_of_methodNamed B.named
  have hlocks := B.notSynchronized
  subst hsz
  have hD := hD0.self (sz := s.heap.size)
  generalize hAe : va_A [(zo7iirrrririii bl esg (nI ecl) eW eA eE eC (nI ecd) aTp (nI ez) (nI ep) (nI em)), (zaI aTp cTp 100 fTp), (zaI eC ceC 100 feC)] s.heap.size = A at hD hQ hE ⊢
  have hA : ∀ q : Nat, s.heap.size ≤ q → A q := fun q h => by rw [← hAe]; exact Or.inr h
  have hS : va_S A s.heap s.heap [] := va_S.rf
  have hl := lv_entry [.ref bl, .int 0] (n := 3) (Nat.le_of_ble_eq_true rfl)
  rw [lg_entry_eq]
  generalize (lg_sl [.ref bl, .int 0] ++ List.replicate (3 - (lg_sl [.ref bl, .int 0]).length) Slot.unset).toArray = ls at hl ⊢
  generalize hag : ([.ref bl, .int 0] : List Value).toArray = args at hts hQ ⊢
  have hl : lv_has ls 3 [(0, .ref bl), (1, .int 0)] := hl
  obtain ⟨H, hH⟩ : ∃ H : Heap, H = s.heap := ⟨_, rfl⟩
  rw [← hH] at hP
  rw [← hH]
  have hS : va_S A s.heap H [] := by rw [hH]; exact hS
  obtain ⟨locs, hlo⟩ : ∃ L : List Loc, L = [] := ⟨_, rfl⟩
  rw [← hlo] at hS
  rw [← hlo]
  clear hH hlo
  refine lv_aload_n hx hb dX5_readEither_0 rfl (lv_at hl 0 rfl) ?_
  refine lv_iload_n hx hb dX5_readEither_1 rfl (lv_at hl 1 rfl) ?_
  have hPc := hP.sub (ws' := [(zo7iirrrririii bl esg (nI ecl) eW eA eE eC (nI ecd) aTp (nI ez) (nI ep) (nI em)), (zaI aTp cTp 100 fTp), (zaI eC ceC 100 feC)]) [0, 1, 2] rfl
  have hDc := hD.sub (ws' := [(zo7iirrrririii bl esg (nI ecl) eW eA eE eC (nI ecd) aTp (nI ez) (nI ep) (nI em)), (zaI aTp cTp 100 fTp), (zaI eC ceC 100 feC)]) [0, 1, 2] (by decide) rfl
  have hKc := hK.sub (tys' := [(cTp, .int), (ceC, .int)]) [0, 1] rfl
  have hFc := va_free (wc := [(zo7iirrrririii bl esg (nI ecl) eW eA eE eC (nI ecd) aTp (nI ez) (nI ep) (nI em)), (zaI aTp cTp 100 fTp), (zaI eC ceC 100 feC)]) hD hS hA [0, 1, 2] rfl
  refine va_calli (va_runV (As := [.int 0]) (rest := []) ⟨hx, hb, hml, hown, hts⟩ (c_xBoth0 l dC dI sK sV bl aTp eW eA eE eC ecl ecd esg cTp ceC fTp feC ez ep em ss kt H.size (hez) (by omega) (by omega) ((hXT).mono (by omega)) (zeC) (gX)) (cwV 1 hts gX5_readEither_X5_readBoth rfl rfl rfl hd_yX5_readBoth ⟨Nat.le_of_ble_eq_true rfl, Nat.le_of_ble_eq_true rfl⟩) ⟨fun a U g mk q => by obtain ⟨q0, q1, qP, qK, qD, qhE⟩ := q; exact ⟨q0, mvz g mk a q1, mvP g mk a qP, mvK g mk a qK, qD, qhE.mv g mk a⟩, va_recv hK hP (ci := 7) (q := (RX5, TX5, 11)) (q0 := 0) rfl rfl, fun U hU hW => ⟨rfl, by rw [hU], by rw [hU]; exact hPc, va_K.moved hW.alike hKc, hDc.weaken (fun _ _ _ _ => trivial), hE.call hS hU hW (fun q h => hFc q h)⟩⟩ rfl rfl hl.1 rfl (lv_room (Nat.le_of_ble_eq_true rfl)) dX5_readEither_2 ⟨Nat.le_of_ble_eq_true rfl, Nat.le_of_ble_eq_true rfl⟩) hS (fun q _ h => hFc q h) hFc (fun r_1 u tC H1 locs htC hvm hw_2 hB hz1 hk1 hS => ?_)
  obtain ⟨ecd9_3, ep9_4, em9_5, feC9_6⟩ := u
  try dsimp only at hw_2 hB
  obtain ⟨hP1, hK1, hD1⟩ := hB
  rw [htC] at hP1
  have hK1 := va_K.moved hvm.symm hK1
  obtain ⟨hP, hD⟩ := va_join (wr := []) (w1 := [(zo7iirrrririii bl esg (nI ecl) eW eA eE eC (nI ecd9_3) aTp (nI ez) (nI ep9_4) (nI em9_5)), (zaI aTp cTp 100 fTp), (zaI eC ceC 100 feC9_6)]) hP hD [0, 1, 2] [] rfl rfl (by decide) (by decide) hk1 hFc hP1 hD1
  have hK := (hK.sub (tys' := []) [] rfl).app hK1
  generalize H1 = H at hP hS ⊢
  have hP : va_P (dC, dI) vwCl [(zo7iirrrririii bl esg (nI ecl) eW eA eE eC (nI ecd9_3) aTp (nI ez) (nI ep9_4) (nI em9_5)), (zaI aTp cTp 100 fTp), (zaI eC ceC 100 feC9_6)] H := hP
  have hD : va_D A [(zo7iirrrririii bl esg (nI ecl) eW eA eE eC (nI ecd9_3) aTp (nI ez) (nI ep9_4) (nI em9_5)), (zaI aTp cTp 100 fTp), (zaI eC ceC 100 feC9_6)] := hD
  have hK : va_K (dC, dI) vwCl [(cTp, .int), (ceC, .int)] s := hK
  rcases hw_2 with ⟨rfl, L_7, eP_8, h_9, h_10, h_11, h_12, hX_14, hC_13⟩ | ⟨rfl, eP_8, h_9, h_10, h_11, hC_13⟩
  · skip
    refine lv_if_ne (tgt := 10) hx hb dX5_readEither_5 (by decide) (fun _ => ?_) (fun c_15 => absurd c_15 (by decide))
    refine lv_iconst (v := 0) hx hb dX5_readEither_10 (by decide) ?_
    refine lv_istore_n (lv' := [(2, .int 0), (0, .ref bl), (1, .int 0)]) hx hb dX5_readEither_11 rfl hl (by decide) rfl (fun ls hl => ?_)
    have L12 : ∀ (nF : Nat) (i : Nat) (ecd2 : Nat) (ep2 : Nat) (em2 : Nat) (feC2 : Nat → Int32) (L1 : List Nat) (m1 : Nat), ez - i < nF → (i ≤ ez) → (pSm ss (pFac ss 5) ep = pSep ss 124 1803 (pEv ss (pFac ss 5)) m1 (some L1, ep2) ∧ 101 ≤ m1 + ep2) → (ep + 3 + 2 * i ≤ ep2 ∧ ep2 ≤ ez ∧ em2 ≤ 99) → (L1.length + ep ≤ ep2) → (XT feC2 ecd2 (kt ++ L1) ep2) → (∀ k0, k0 < 100 → okC (feC2 k0)) → ∀ (H : Heap) (locs : List Loc), va_K (dC, dI) vwCl [(cTp, .int), (ceC, .int)] s → va_P (dC, dI) vwCl [(zo7iirrrririii bl esg (nI ecl) eW eA eE eC (nI ecd2) aTp (nI ez) (nI ep2) (nI em2)), (zaI aTp cTp 100 fTp), (zaI eC ceC 100 feC2)] H → va_D A [(zo7iirrrririii bl esg (nI ecl) eW eA eE eC (nI ecd2) aTp (nI ez) (nI ep2) (nI em2)), (zaI aTp cTp 100 fTp), (zaI eC ceC 100 feC2)] → va_S A s.heap H locs → ∀ (ls : Array Slot), lv_has ls 3 [(0, .ref bl), (1, .int 0), (2, .int (nI i))] → W p l e ({ frames := 22, cells := 0, slots := 0, locals := 487 } : Room) s m args below meth c H locs 0 0 Q (F0 m 12 ls []) := by
      intro nF
      induction nF with
      | zero => intro i ecd2 ep2 em2 feC2 L1 m1 hm; exact absurd hm (Nat.not_lt_zero _)
      | succ nF ih12 =>
        intro i ecd2 ep2 em2 feC2 L1 m1 hm hii hE9 hp2 hL2 hX2 zC2 H locs hK hP hD hS ls hl
        obtain ⟨hE9, hm9⟩ := hE9
        obtain ⟨hp2a, hp2b, hp2c⟩ := hp2
        refine lv_iload_n hx hb dX5_readEither_12 rfl (lv_at hl 2 rfl) ?_
        refine lv_aload_n hx hb dX5_readEither_13 rfl (lv_at hl 0 rfl) ?_
        refine va_get (D := (dC, dI)) (ci := 7) (v := .int (nI ez)) (C := RX5) (T := TX5) (N := 11) hx hb hts kc_xEither0_0 hown hK hP 0 rfl rfl 8 (by decide) (hts (.fieldLink RX5 31 "MistHeaps$Hill" "size" "I") kc_xEither0_1) (fun _ h9 => h9) rfl dX5_readEither_14 ?_
        refine lv_icmp_ge (tgt := 51) hx hb dX5_readEither_17 (by decide) (fun c_16 => ?_) (fun c_16 => ?_)
        · skip
          have c_16 : ez ≤ i := (nI_leI (a := ez) (b := i) (by omega) (by omega)).mp c_16
          refine lv_iconst (v := 1) hx hb dX5_readEither_51 (by decide) ?_
          rw [hQ]
          have hP9 := hP.sub (ws' := [(zo7iirrrririii bl esg (nI ecl) eW eA eE eC (nI ecd2) aTp (nI ez) (nI ep2) (nI em2)), (zaI aTp cTp 100 fTp), (zaI eC ceC 100 feC2)]) [0, 1, 2] rfl
          have hD9 := hD.sub (ws' := [(zo7iirrrririii bl esg (nI ecl) eW eA eE eC (nI ecd2) aTp (nI ez) (nI ep2) (nI em2)), (zaI aTp cTp 100 fTp), (zaI eC ceC 100 feC2)]) [0, 1, 2] (by decide) rfl
          have hK9 := hK.sub (tys' := [(cTp, .int), (ceC, .int)]) [0, 1] rfl
          exact W.zret (v := 1) hx hb hr rfl (fun tQ htQ hWQ => ⟨⟨1, (ecd2, ep2, em2, feC2), rfl, Or.inl ⟨rfl, L1, hE9.trans (ps_end (fun z => by have := gX.2.1 ep2 (by omega); omega)), by omega, by omega, by omega, by (try simp only [List.length_append, List.length_cons, List.length_nil]); omega, hX2, zC2⟩, by rw [htQ]; exact hP9, va_K.moved hWQ.alike hK9, hD9⟩, hS.F htQ⟩) hS.2.2 dX5_readEither_52
        · skip
          have c_16 : ¬ ez ≤ i := fun q => c_16 ((nI_leI (a := ez) (b := i) (by omega) (by omega)).mpr q)
          refine lv_aload_n hx hb dX5_readEither_20 rfl (lv_at hl 0 rfl) ?_
          refine lv_bipush (v := 124) hx hb dX5_readEither_21 (by decide) ?_
          have hPc := hP.sub (ws' := [(zo7iirrrririii bl esg (nI ecl) eW eA eE eC (nI ecd2) aTp (nI ez) (nI ep2) (nI em2)), (zaI aTp cTp 100 fTp)]) [0, 1] rfl
          have hDc := hD.sub (ws' := [(zo7iirrrririii bl esg (nI ecl) eW eA eE eC (nI ecd2) aTp (nI ez) (nI ep2) (nI em2)), (zaI aTp cTp 100 fTp)]) [0, 1] (by decide) rfl
          have hKc := hK.sub (tys' := [(cTp, .int)]) [0] rfl
          have hFc := va_free (wc := [(zo7iirrrririii bl esg (nI ecl) eW eA eE eC (nI ecd2) aTp (nI ez) (nI ep2) (nI em2)), (zaI aTp cTp 100 fTp)]) hD hS hA [0, 1] rfl
          refine va_calli (va_runV (As := [.int 124]) (rest := []) ⟨hx, hb, hml, hown, hts⟩ (c_xReadSign l dC dI bl aTp eW eA eE eC 124 ecl ecd2 esg cTp fTp ez ep2 em2 ss H.size (hez) (by omega) (by decide) (by decide) (gX)) (cwV 1 hts gX5_readEither_X5_readSign rfl rfl rfl hd_yX5_readSign ⟨Nat.le_of_ble_eq_true rfl, Nat.le_of_ble_eq_true rfl⟩) ⟨fun a U g mk q => by obtain ⟨q0, q1, qP, qK, qD⟩ := q; exact ⟨q0, mvz g mk a q1, mvP g mk a qP, mvK g mk a qK, qD⟩, va_recv hK hP (ci := 7) (q := (RX5, TX5, 11)) (q0 := 0) rfl rfl, fun U hU hW => ⟨rfl, by rw [hU], by rw [hU]; exact hPc, va_K.moved hW.alike hKc, hDc.weaken (fun _ _ _ _ => trivial)⟩⟩ rfl rfl hl.1 rfl (lv_room (Nat.le_of_ble_eq_true rfl)) dX5_readEither_23 ⟨Nat.le_of_ble_eq_true rfl, Nat.le_of_ble_eq_true rfl⟩) hS (fun q _ h => hFc q h) hFc (fun r_17 u tC H1 locs htC hvm hw_18 hB hz1 hk1 hS => ?_)
          obtain ⟨ep9_19, rfl⟩ : ∃ z, z = u := ⟨_, rfl⟩
          try dsimp only at hw_18 hB
          obtain ⟨hP1, hK1, hD1⟩ := hB
          rw [htC] at hP1
          have hK1 := va_K.moved hvm.symm hK1
          obtain ⟨hP, hD⟩ := va_join (wr := [(zaI eC ceC 100 feC2)]) (w1 := [(zo7iirrrririii bl esg (nI ecl) eW eA eE eC (nI ecd2) aTp (nI ez) (nI ep9_19) (nI em2)), (zaI aTp cTp 100 fTp)]) hP hD [0, 1] [2] rfl rfl (by decide) (by decide) hk1 hFc hP1 hD1
          have hK := (hK.sub (tys' := [(ceC, .int)]) [1] rfl).app hK1
          generalize H1 = H at hP hS ⊢
          have hP : va_P (dC, dI) vwCl [(zaI eC ceC 100 feC2), (zo7iirrrririii bl esg (nI ecl) eW eA eE eC (nI ecd2) aTp (nI ez) (nI ep9_19) (nI em2)), (zaI aTp cTp 100 fTp)] H := hP
          have hD : va_D A [(zaI eC ceC 100 feC2), (zo7iirrrririii bl esg (nI ecl) eW eA eE eC (nI ecd2) aTp (nI ez) (nI ep9_19) (nI em2)), (zaI aTp cTp 100 fTp)] := hD
          have hK : va_K (dC, dI) vwCl [(ceC, .int), (cTp, .int)] s := hK
          rcases hw_18 with ⟨rfl, hy9, h_20, e_21⟩ | ⟨rfl, hn9, e_21⟩
          · skip
            obtain rfl := (e_21).symm
            obtain ⟨m2, rfl⟩ : ∃ q : Nat, m1 = q + 1 := ⟨m1 - 1, by omega⟩
            refine lv_if_eq (tgt := 51) hx hb dX5_readEither_26 (by decide) (fun c_22 => absurd c_22 (by decide)) (fun _ => ?_)
            refine lv_aload_n hx hb dX5_readEither_29 rfl (lv_at hl 0 rfl) ?_
            refine lv_iload_n hx hb dX5_readEither_30 rfl (lv_at hl 1 rfl) ?_
            have hPc := hP.sub (ws' := [(zo7iirrrririii bl esg (nI ecl) eW eA eE eC (nI ecd2) aTp (nI ez) (nI (ep2 + 1)) (nI em2)), (zaI aTp cTp 100 fTp), (zaI eC ceC 100 feC2)]) [1, 2, 0] rfl
            have hDc := hD.sub (ws' := [(zo7iirrrririii bl esg (nI ecl) eW eA eE eC (nI ecd2) aTp (nI ez) (nI (ep2 + 1)) (nI em2)), (zaI aTp cTp 100 fTp), (zaI eC ceC 100 feC2)]) [1, 2, 0] (by decide) rfl
            have hKc := hK.sub (tys' := [(cTp, .int), (ceC, .int)]) [1, 0] rfl
            have hFc := va_free (wc := [(zo7iirrrririii bl esg (nI ecl) eW eA eE eC (nI ecd2) aTp (nI ez) (nI (ep2 + 1)) (nI em2)), (zaI aTp cTp 100 fTp), (zaI eC ceC 100 feC2)]) hD hS hA [1, 2, 0] rfl
            refine va_calli (va_runV (As := [.int 0]) (rest := []) ⟨hx, hb, hml, hown, hts⟩ (c_xBoth0 l dC dI sK sV bl aTp eW eA eE eC ecl ecd2 esg cTp ceC fTp feC2 ez (ep2 + 1) em2 ss (kt ++ L1) H.size (hez) (by omega) (by omega) ((hX2).mono (by omega)) (zC2) (gX)) (cwV 1 hts gX5_readEither_X5_readBoth rfl rfl rfl hd_yX5_readBoth ⟨Nat.le_of_ble_eq_true rfl, Nat.le_of_ble_eq_true rfl⟩) ⟨fun a U g mk q => by obtain ⟨q0, q1, qP, qK, qD, qhE⟩ := q; exact ⟨q0, mvz g mk a q1, mvP g mk a qP, mvK g mk a qK, qD, qhE.mv g mk a⟩, va_recv hK hP (ci := 7) (q := (RX5, TX5, 11)) (q0 := 1) rfl rfl, fun U hU hW => ⟨rfl, by rw [hU], by rw [hU]; exact hPc, va_K.moved hW.alike hKc, hDc.weaken (fun _ _ _ _ => trivial), hE.call hS hU hW (fun q h => hFc q h)⟩⟩ rfl rfl hl.1 rfl (lv_room (Nat.le_of_ble_eq_true rfl)) dX5_readEither_31 ⟨Nat.le_of_ble_eq_true rfl, Nat.le_of_ble_eq_true rfl⟩) hS (fun q _ h => hFc q h) hFc (fun r_23 u tC H1 locs htC hvm hw_24 hB hz1 hk1 hS => ?_)
            obtain ⟨ecd9_25, ep9_26, em9_27, feC9_28⟩ := u
            try dsimp only at hw_24 hB
            obtain ⟨hP1, hK1, hD1⟩ := hB
            rw [htC] at hP1
            have hK1 := va_K.moved hvm.symm hK1
            obtain ⟨hP, hD⟩ := va_join (wr := []) (w1 := [(zo7iirrrririii bl esg (nI ecl) eW eA eE eC (nI ecd9_25) aTp (nI ez) (nI ep9_26) (nI em9_27)), (zaI aTp cTp 100 fTp), (zaI eC ceC 100 feC9_28)]) hP hD [1, 2, 0] [] rfl rfl (by decide) (by decide) hk1 hFc hP1 hD1
            have hK := (hK.sub (tys' := []) [] rfl).app hK1
            generalize H1 = H at hP hS ⊢
            have hP : va_P (dC, dI) vwCl [(zo7iirrrririii bl esg (nI ecl) eW eA eE eC (nI ecd9_25) aTp (nI ez) (nI ep9_26) (nI em9_27)), (zaI aTp cTp 100 fTp), (zaI eC ceC 100 feC9_28)] H := hP
            have hD : va_D A [(zo7iirrrririii bl esg (nI ecl) eW eA eE eC (nI ecd9_25) aTp (nI ez) (nI ep9_26) (nI em9_27)), (zaI aTp cTp 100 fTp), (zaI eC ceC 100 feC9_28)] := hD
            have hK : va_K (dC, dI) vwCl [(cTp, .int), (ceC, .int)] s := hK
            rcases hw_24 with ⟨rfl, L_29, eP_30, h_31, h_32, h_33, h_34, hX_36, hC_35⟩ | ⟨rfl, eP_30, h_31, h_32, h_33, hC_35⟩
            · skip
              refine lv_if_ne (tgt := 39) hx hb dX5_readEither_34 (by decide) (fun _ => ?_) (fun c_37 => absurd c_37 (by decide))
              refine lv_aload_n hx hb dX5_readEither_39 rfl (lv_at hl 0 rfl) ?_
              refine lv_bipush (v := (-3)) hx hb dX5_readEither_40 (by decide) ?_
              have hPc := hP.sub (ws' := [(zo7iirrrririii bl esg (nI ecl) eW eA eE eC (nI ecd9_25) aTp (nI ez) (nI ep9_26) (nI em9_27)), (zaI eC ceC 100 feC9_28)]) [0, 2] rfl
              have hDc := hD.sub (ws' := [(zo7iirrrririii bl esg (nI ecl) eW eA eE eC (nI ecd9_25) aTp (nI ez) (nI ep9_26) (nI em9_27)), (zaI eC ceC 100 feC9_28)]) [0, 2] (by decide) rfl
              have hKc := hK.sub (tys' := [(ceC, .int)]) [1] rfl
              have hFc := va_free (wc := [(zo7iirrrririii bl esg (nI ecl) eW eA eE eC (nI ecd9_25) aTp (nI ez) (nI ep9_26) (nI em9_27)), (zaI eC ceC 100 feC9_28)]) hD hS hA [0, 2] rfl
              refine va_callv (va_runV (As := [.int (-3)]) (rest := []) ⟨hx, hb, hml, hown, hts⟩ (c_xCode l dC dI bl aTp eW eA eE eC ecl ecd9_25 (-3) esg ceC feC9_28 ez ep9_26 em9_27 ((kt ++ L1) ++ L_29) 1803 H.size ((hX_36).mono (by omega)) (by have h6 := (hX_36).1; have h7 := (hX_36).2.1; have h8 := hXT.1; have h9 := hXT.2.1; (try simp only [List.length_append] at h6); omega) (hC_35) (Or.inr (Or.inr (Or.inl rfl))) (by decide)) (cwV 1 hts gX5_readEither_X5_code rfl rfl rfl hd_yX5_code ⟨Nat.le_of_ble_eq_true rfl, Nat.le_of_ble_eq_true rfl⟩) ⟨fun a U g mk q => by obtain ⟨q0, q1, qP, qK, qD⟩ := q; exact ⟨q0, mvz g mk a q1, mvP g mk a qP, mvK g mk a qK, qD⟩, va_recv hK hP (ci := 7) (q := (RX5, TX5, 11)) (q0 := 0) rfl rfl, fun U hU hW => ⟨rfl, by rw [hU], by rw [hU]; exact hPc, va_K.moved hW.alike hKc, hDc.weaken (fun _ _ _ _ => trivial)⟩⟩ rfl rfl hl.1 rfl (lv_room (Nat.le_of_ble_eq_true rfl)) dX5_readEither_42 ⟨Nat.le_of_ble_eq_true rfl, Nat.le_of_ble_eq_true rfl⟩) hS (fun q _ h => hFc q h) hFc (fun u tC H1 locs htC hvm hw_39 hB hz1 hk1 hS => ?_)
              obtain ⟨ecd9_40, feC9_41⟩ := u
              try dsimp only at hw_39 hB
              obtain ⟨hP1, hK1, hD1⟩ := hB
              rw [htC] at hP1
              have hK1 := va_K.moved hvm.symm hK1
              obtain ⟨hP, hD⟩ := va_join (wr := [(zaI aTp cTp 100 fTp)]) (w1 := [(zo7iirrrririii bl esg (nI ecl) eW eA eE eC (nI ecd9_40) aTp (nI ez) (nI ep9_26) (nI em9_27)), (zaI eC ceC 100 feC9_41)]) hP hD [0, 2] [1] rfl rfl (by decide) (by decide) hk1 hFc hP1 hD1
              have hK := (hK.sub (tys' := [(cTp, .int)]) [0] rfl).app hK1
              generalize H1 = H at hP hS ⊢
              have hP : va_P (dC, dI) vwCl [(zaI aTp cTp 100 fTp), (zo7iirrrririii bl esg (nI ecl) eW eA eE eC (nI ecd9_40) aTp (nI ez) (nI ep9_26) (nI em9_27)), (zaI eC ceC 100 feC9_41)] H := hP
              have hD : va_D A [(zaI aTp cTp 100 fTp), (zo7iirrrririii bl esg (nI ecl) eW eA eE eC (nI ecd9_40) aTp (nI ez) (nI ep9_26) (nI em9_27)), (zaI eC ceC 100 feC9_41)] := hD
              have hK : va_K (dC, dI) vwCl [(cTp, .int), (ceC, .int)] s := hK
              obtain ⟨e_42, hC_43, h_44⟩ := hw_39
              obtain rfl := (e_42).symm
              have hX_45 : XT feC9_41 (ecd9_25 + 1) (((kt ++ L1) ++ L_29) ++ [1803]) (ep9_26) := ⟨by rw [List.length_append, (hX_36).1]; rfl, by have h6 := (hX_36).1; have h7 := (hX_36).2.1; have h8 := hXT.1; have h9 := hXT.2.1; (try simp only [List.length_append] at h6); omega, h_44⟩
              refine lv_iinc (v := nI (i + 1)) (lv' := [(2, .int (nI (i + 1))), (0, .ref bl), (1, .int 0)]) hx hb dX5_readEither_45 hl (k := 2) rfl (nI_add i 1) (by decide) rfl (fun ls hl => ?_)
              refine lv_goto (tgt := 12) hx hb dX5_readEither_48 (by decide) ?_
              exact ih12 (i + 1) _ _ _ _ (L1 ++ (L_29 ++ [1803])) (m2) (by omega) (by omega) (⟨hE9.trans (ps_go hy9 eP_30), by omega⟩) (by omega) (by simp only [List.length_append, List.length_cons, List.length_nil]; omega) (XT.as (XT.as (hX_45))) (hC_43) _ _ (hK.sub [0, 1] rfl) (hP.sub [1, 0, 2] rfl) (hD.sub [1, 0, 2] (by decide) rfl) hS ls (lv_sub hl [1, 2, 0] rfl)
            · skip
              refine lv_if_ne (tgt := 39) hx hb dX5_readEither_34 (by decide) (fun c_46 => absurd c_46 (by decide)) (fun _ => ?_)
              refine lv_iconst (v := 0) hx hb dX5_readEither_37 (by decide) ?_
              rw [hQ]
              have hP9 := hP.sub (ws' := [(zo7iirrrririii bl esg (nI ecl) eW eA eE eC (nI ecd9_25) aTp (nI ez) (nI ep9_26) (nI em9_27)), (zaI aTp cTp 100 fTp), (zaI eC ceC 100 feC9_28)]) [0, 1, 2] rfl
              have hD9 := hD.sub (ws' := [(zo7iirrrririii bl esg (nI ecl) eW eA eE eC (nI ecd9_25) aTp (nI ez) (nI ep9_26) (nI em9_27)), (zaI aTp cTp 100 fTp), (zaI eC ceC 100 feC9_28)]) [0, 1, 2] (by decide) rfl
              have hK9 := hK.sub (tys' := [(cTp, .int), (ceC, .int)]) [0, 1] rfl
              exact W.zret (v := 0) hx hb hr rfl (fun tQ htQ hWQ => ⟨⟨0, (ecd9_25, ep9_26, em9_27, feC9_28), rfl, Or.inr ⟨rfl, hE9.trans (ps_bad hy9 eP_30), by omega, by omega, by first | omega | (have := (hXT).2.1; omega), hC_35⟩, by rw [htQ]; exact hP9, va_K.moved hWQ.alike hK9, hD9⟩, hS.F htQ⟩) hS.2.2 dX5_readEither_38
          · skip
            obtain rfl := (e_21).symm
            refine lv_if_eq (tgt := 51) hx hb dX5_readEither_26 (by decide) (fun _ => ?_) (fun c_47 => absurd c_47 (by decide))
            refine lv_iconst (v := 1) hx hb dX5_readEither_51 (by decide) ?_
            rw [hQ]
            have hP9 := hP.sub (ws' := [(zo7iirrrririii bl esg (nI ecl) eW eA eE eC (nI ecd2) aTp (nI ez) (nI ep2) (nI em2)), (zaI aTp cTp 100 fTp), (zaI eC ceC 100 feC2)]) [1, 2, 0] rfl
            have hD9 := hD.sub (ws' := [(zo7iirrrririii bl esg (nI ecl) eW eA eE eC (nI ecd2) aTp (nI ez) (nI ep2) (nI em2)), (zaI aTp cTp 100 fTp), (zaI eC ceC 100 feC2)]) [1, 2, 0] (by decide) rfl
            have hK9 := hK.sub (tys' := [(cTp, .int), (ceC, .int)]) [1, 0] rfl
            exact W.zret (v := 1) hx hb hr rfl (fun tQ htQ hWQ => ⟨⟨1, (ecd2, ep2, em2, feC2), rfl, Or.inl ⟨rfl, L1, hE9.trans (ps_end hn9), by omega, by omega, by omega, by (try simp only [List.length_append, List.length_cons, List.length_nil]); omega, hX2, zC2⟩, by rw [htQ]; exact hP9, va_K.moved hWQ.alike hK9, hD9⟩, hS.F htQ⟩) hS.2.2 dX5_readEither_52
    exact L12 _ (0) _ _ _ _ (L_7) (101) (Nat.lt_succ_self _) (by omega) (⟨pSm_s eP_8, by omega⟩) (by omega) (by omega) (hX_14) (hC_13) _ _ (hK.sub [0, 1] rfl) (hP.sub [0, 1, 2] rfl) (hD.sub [0, 1, 2] (by decide) rfl) hS ls (lv_sub hl [1, 2, 0] rfl)
  · skip
    refine lv_if_ne (tgt := 10) hx hb dX5_readEither_5 (by decide) (fun c_48 => absurd c_48 (by decide)) (fun _ => ?_)
    refine lv_iconst (v := 0) hx hb dX5_readEither_8 (by decide) ?_
    rw [hQ]
    have hP9 := hP.sub (ws' := [(zo7iirrrririii bl esg (nI ecl) eW eA eE eC (nI ecd9_3) aTp (nI ez) (nI ep9_4) (nI em9_5)), (zaI aTp cTp 100 fTp), (zaI eC ceC 100 feC9_6)]) [0, 1, 2] rfl
    have hD9 := hD.sub (ws' := [(zo7iirrrririii bl esg (nI ecl) eW eA eE eC (nI ecd9_3) aTp (nI ez) (nI ep9_4) (nI em9_5)), (zaI aTp cTp 100 fTp), (zaI eC ceC 100 feC9_6)]) [0, 1, 2] (by decide) rfl
    have hK9 := hK.sub (tys' := [(cTp, .int), (ceC, .int)]) [0, 1] rfl
    exact W.zret (v := 0) hx hb hr rfl (fun tQ htQ hWQ => ⟨⟨0, (ecd9_3, ep9_4, em9_5, feC9_6), rfl, Or.inr ⟨rfl, pSm_n eP_8, by omega, by omega, by first | omega | (have := (hXT).2.1; omega), hC_13⟩, by rw [htQ]; exact hP9, va_K.moved hWQ.alike hK9, hD9⟩, hS.F htQ⟩) hS.2.2 dX5_readEither_9
end mg15f
section mg15f
theorem ggX3_doSees_X3_begin : GoodIn wsX3_doSees wsX3_begin := gga_of 930 rfl rfl rfl
theorem ggJx4a65c_grow_d5877_Jx4a65c_grow_92f84 : GoodIn wsJx4a65c_grow_d5877 wsJx4a65c_grow_92f84 := gga_of 970 rfl rfl rfl
theorem gJx4a65c_grow_d5877_Jx4a65c_grow_92f84 : GoodIn wsJx4a65c_grow_d5877 (wsV RJx4a65c 69 RJx4a65c yJx4a65c_grow_92f84 wsJx4a65c_grow_92f84) := goodIn_app (ggh_of [967, 969, 20, 71] rfl rfl rfl) ggJx4a65c_grow_d5877_Jx4a65c_grow_92f84
theorem ggJx4a65c_add_72be8_Jx4a65c_grow_d5877 : GoodIn wsJx4a65c_add_72be8 wsJx4a65c_grow_d5877 := gga_of 966 rfl rfl rfl
theorem gJx4a65c_add_72be8_Jx4a65c_grow_d5877 : GoodIn wsJx4a65c_add_72be8 (wsV RJx4a65c 129 RJx4a65c yJx4a65c_grow_d5877 wsJx4a65c_grow_d5877) := goodIn_app (ggh_of [963, 965, 19, 71] rfl rfl rfl) ggJx4a65c_add_72be8_Jx4a65c_grow_d5877
theorem ggJx4a65c_add_9ea2d_Jx4a65c_add_72be8 : GoodIn wsJx4a65c_add_9ea2d wsJx4a65c_add_72be8 := gga_of 962 rfl rfl rfl
theorem gJx4a65c_add_9ea2d_Jx4a65c_add_72be8 : GoodIn wsJx4a65c_add_9ea2d (wsV RJx4a65c 131 RJx4a65c yJx4a65c_add_72be8 wsJx4a65c_add_72be8) := goodIn_app (ggh_of [959, 961, 18, 71] rfl rfl rfl) ggJx4a65c_add_9ea2d_Jx4a65c_add_72be8
theorem ggX3_begin_Jx4a65c_size_8abf5 : GoodIn wsX3_begin wsJx4a65c_size_8abf5 := gga_of 934 rfl rfl rfl
theorem gX3_begin_Jx4a65c_size_8abf5 : GoodIn wsX3_begin (wsV RX3 45 RJx4a65c yJx4a65c_size_8abf5 wsJx4a65c_size_8abf5) := goodIn_app (ggh_of [931, 932, 933, 71] rfl rfl rfl) ggX3_begin_Jx4a65c_size_8abf5
theorem ggX3_begin_J6_valueOf_2dffe : GoodIn wsX3_begin wsJ6_valueOf_2dffe := gga_of 937 rfl rfl rfl
theorem gX3_begin_J6_valueOf_2dffe : GoodIn wsX3_begin (va_wsS RX3 51 yJ6_valueOf_2dffe wsJ6_valueOf_2dffe) := goodIn_app (ggh_of [935, 936, 87] rfl rfl rfl) ggX3_begin_J6_valueOf_2dffe
theorem ggX3_begin_Jx4a65c_add_9ea2d : GoodIn wsX3_begin wsJx4a65c_add_9ea2d := gga_of 958 rfl rfl rfl
theorem gX3_begin_Jx4a65c_add_9ea2d : GoodIn wsX3_begin (wsV RX3 57 RJx4a65c yJx4a65c_add_9ea2d wsJx4a65c_add_9ea2d) := goodIn_app (ggh_of [955, 956, 957, 71] rfl rfl rfl) ggX3_begin_Jx4a65c_add_9ea2d
theorem ggJ15_checkIndex_7cf53_J3_checkIndex_8e157 : GoodIn wsJ15_checkIndex_7cf53 wsJ3_checkIndex_8e157 := gga_of 405 rfl rfl rfl
theorem gJ15_checkIndex_7cf53_J3_checkIndex_8e157 : GoodIn wsJ15_checkIndex_7cf53 (va_wsS RJ15 105 yJ3_checkIndex_8e157 wsJ3_checkIndex_8e157) := goodIn_app (ggh_of [1091, 404, 75] rfl rfl rfl) ggJ15_checkIndex_7cf53_J3_checkIndex_8e157
theorem ggJx4a65c_get_915e3_J15_checkIndex_7cf53 : GoodIn wsJx4a65c_get_915e3 wsJ15_checkIndex_7cf53 := gga_of 1090 rfl rfl rfl
theorem gJx4a65c_get_915e3_J15_checkIndex_7cf53 : GoodIn wsJx4a65c_get_915e3 (va_wsS RJx4a65c 118 yJ15_checkIndex_7cf53 wsJ15_checkIndex_7cf53) := goodIn_app (ggh_of [1088, 1089, 92] rfl rfl rfl) ggJx4a65c_get_915e3_J15_checkIndex_7cf53
theorem ggJx4a65c_get_915e3_Jx4a65c_elementData_915e3 : GoodIn wsJx4a65c_get_915e3 wsJx4a65c_elementData_915e3 := gga_of 1095 rfl rfl rfl
theorem gJx4a65c_get_915e3_Jx4a65c_elementData_915e3 : GoodIn wsJx4a65c_get_915e3 (wsV RJx4a65c 123 RJx4a65c yJx4a65c_elementData_915e3 wsJx4a65c_elementData_915e3) := goodIn_app (ggh_of [1092, 1093, 1094, 71] rfl rfl rfl) ggJx4a65c_get_915e3_Jx4a65c_elementData_915e3
noncomputable def dk16alist_cJ6_valueOf_2dffe_0 : List (Nat × List Nat) := [(0, [26]), (1, [16, 128]), (3, [161, 0, 20]), (6, [26]), (7, [178, 0, 191]), (10, [163, 0, 13]), (13, [178, 0, 195]), (16, [26]), (17, [17, 0, 128]), (20, [96]), (21, [50]), (22, [176])]
set_option maxRecDepth 100000 in
theorem dk16alist_cJ6_valueOf_2dffe_0_a : btA cJ6_valueOf_2dffe dk16alist_cJ6_valueOf_2dffe_0 = true := by decide +kernel
theorem dJ6_valueOf_2dffe_0 : decode cJ6_valueOf_2dffe 0 = .ok (.iload_n 0, 1) := bd26 (btAt dk16alist_cJ6_valueOf_2dffe_0_a 0 rfl)
theorem dJ6_valueOf_2dffe_1 : decode cJ6_valueOf_2dffe 1 = .ok (.bipush (-128), 2) := bd16 (a := 128) (btAt dk16alist_cJ6_valueOf_2dffe_0_a 1 rfl)
theorem dJ6_valueOf_2dffe_3 : decode cJ6_valueOf_2dffe 3 = .ok (.if_icmp .lt 20, 3) := bd161 (a := 0) (b := 20) (btAt dk16alist_cJ6_valueOf_2dffe_0_a 2 rfl)
theorem dJ6_valueOf_2dffe_6 : decode cJ6_valueOf_2dffe 6 = .ok (.iload_n 0, 1) := bd26 (btAt dk16alist_cJ6_valueOf_2dffe_0_a 3 rfl)
theorem dJ6_valueOf_2dffe_7 : decode cJ6_valueOf_2dffe 7 = .ok (.getstatic 191, 3) := bd178 (a := 0) (b := 191) (btAt dk16alist_cJ6_valueOf_2dffe_0_a 4 rfl)
theorem dJ6_valueOf_2dffe_10 : decode cJ6_valueOf_2dffe 10 = .ok (.if_icmp .gt 13, 3) := bd163 (a := 0) (b := 13) (btAt dk16alist_cJ6_valueOf_2dffe_0_a 5 rfl)
theorem dJ6_valueOf_2dffe_13 : decode cJ6_valueOf_2dffe 13 = .ok (.getstatic 195, 3) := bd178 (a := 0) (b := 195) (btAt dk16alist_cJ6_valueOf_2dffe_0_a 6 rfl)
theorem dJ6_valueOf_2dffe_16 : decode cJ6_valueOf_2dffe 16 = .ok (.iload_n 0, 1) := bd26 (btAt dk16alist_cJ6_valueOf_2dffe_0_a 7 rfl)
theorem dJ6_valueOf_2dffe_17 : decode cJ6_valueOf_2dffe 17 = .ok (.sipush 128, 3) := bd17 (a := 0) (b := 128) (btAt dk16alist_cJ6_valueOf_2dffe_0_a 8 rfl)
theorem dJ6_valueOf_2dffe_20 : decode cJ6_valueOf_2dffe 20 = .ok (.iadd, 1) := bd96 (btAt dk16alist_cJ6_valueOf_2dffe_0_a 9 rfl)
theorem dJ6_valueOf_2dffe_21 : decode cJ6_valueOf_2dffe 21 = .ok (.aaload, 1) := bd50 (btAt dk16alist_cJ6_valueOf_2dffe_0_a 10 rfl)
theorem dJ6_valueOf_2dffe_22 : decode cJ6_valueOf_2dffe 22 = .ok (.areturn, 1) := bd176 (btAt dk16alist_cJ6_valueOf_2dffe_0_a 11 rfl)
set_option maxRecDepth 100000 in
theorem dJ6_intValue_8abf5_0 : decode cJ6_intValue_8abf5 0 = .ok (.aload_n 0, 1) := bd42 (by decide +kernel)
set_option maxRecDepth 100000 in
theorem dJ6_intValue_8abf5_1 : decode cJ6_intValue_8abf5 1 = .ok (.getfield 205, 3) := bd180 (a := 0) (b := 205) (by decide +kernel)
set_option maxRecDepth 100000 in
theorem dJ6_intValue_8abf5_4 : decode cJ6_intValue_8abf5 4 = .ok (.ireturn, 1) := bd172 (by decide +kernel)
set_option maxRecDepth 100000 in
theorem dJx4a65c_size_8abf5_0 : decode cJx4a65c_size_8abf5 0 = .ok (.aload_n 0, 1) := bd42 (by decide +kernel)
set_option maxRecDepth 100000 in
theorem dJx4a65c_size_8abf5_1 : decode cJx4a65c_size_8abf5 1 = .ok (.getfield 48, 3) := bd180 (a := 0) (b := 48) (by decide +kernel)
set_option maxRecDepth 100000 in
theorem dJx4a65c_size_8abf5_4 : decode cJx4a65c_size_8abf5 4 = .ok (.ireturn, 1) := bd172 (by decide +kernel)
noncomputable def dk16alist_cJx4a65c_clear_da8c8_0 : List (Nat × List Nat) := [(0, [42]), (1, [89]), (2, [180, 0, 63]), (5, [4]), (6, [96]), (7, [181, 0, 63]), (10, [42]), (11, [180, 0, 9]), (14, [76]), (15, [42]), (16, [180, 0, 48]), (19, [61]), (20, [42]), (21, [3]), (22, [90]), (23, [181, 0, 48]), (26, [62]), (27, [29]), (28, [28]), (29, [162, 0, 13]), (32, [43]), (33, [29]), (34, [1]), (35, [83]), (36, [132, 3, 1]), (39, [167, 255, 244]), (42, [177])]
set_option maxRecDepth 100000 in
theorem dk16alist_cJx4a65c_clear_da8c8_0_a : btA cJx4a65c_clear_da8c8 dk16alist_cJx4a65c_clear_da8c8_0 = true := by decide +kernel
theorem dJx4a65c_clear_da8c8_0 : decode cJx4a65c_clear_da8c8 0 = .ok (.aload_n 0, 1) := bd42 (btAt dk16alist_cJx4a65c_clear_da8c8_0_a 0 rfl)
theorem dJx4a65c_clear_da8c8_1 : decode cJx4a65c_clear_da8c8 1 = .ok (.dup, 1) := bd89 (btAt dk16alist_cJx4a65c_clear_da8c8_0_a 1 rfl)
theorem dJx4a65c_clear_da8c8_2 : decode cJx4a65c_clear_da8c8 2 = .ok (.getfield 63, 3) := bd180 (a := 0) (b := 63) (btAt dk16alist_cJx4a65c_clear_da8c8_0_a 2 rfl)
theorem dJx4a65c_clear_da8c8_5 : decode cJx4a65c_clear_da8c8 5 = .ok (.iconst 1, 1) := bd4 (btAt dk16alist_cJx4a65c_clear_da8c8_0_a 3 rfl)
theorem dJx4a65c_clear_da8c8_6 : decode cJx4a65c_clear_da8c8 6 = .ok (.iadd, 1) := bd96 (btAt dk16alist_cJx4a65c_clear_da8c8_0_a 4 rfl)
theorem dJx4a65c_clear_da8c8_7 : decode cJx4a65c_clear_da8c8 7 = .ok (.putfield 63, 3) := bd181 (a := 0) (b := 63) (btAt dk16alist_cJx4a65c_clear_da8c8_0_a 5 rfl)
theorem dJx4a65c_clear_da8c8_10 : decode cJx4a65c_clear_da8c8 10 = .ok (.aload_n 0, 1) := bd42 (btAt dk16alist_cJx4a65c_clear_da8c8_0_a 6 rfl)
theorem dJx4a65c_clear_da8c8_11 : decode cJx4a65c_clear_da8c8 11 = .ok (.getfield 9, 3) := bd180 (a := 0) (b := 9) (btAt dk16alist_cJx4a65c_clear_da8c8_0_a 7 rfl)
theorem dJx4a65c_clear_da8c8_14 : decode cJx4a65c_clear_da8c8 14 = .ok (.astore_n 1, 1) := bd76 (btAt dk16alist_cJx4a65c_clear_da8c8_0_a 8 rfl)
theorem dJx4a65c_clear_da8c8_15 : decode cJx4a65c_clear_da8c8 15 = .ok (.aload_n 0, 1) := bd42 (btAt dk16alist_cJx4a65c_clear_da8c8_0_a 9 rfl)
theorem dJx4a65c_clear_da8c8_16 : decode cJx4a65c_clear_da8c8 16 = .ok (.getfield 48, 3) := bd180 (a := 0) (b := 48) (btAt dk16alist_cJx4a65c_clear_da8c8_0_a 10 rfl)
theorem dJx4a65c_clear_da8c8_19 : decode cJx4a65c_clear_da8c8 19 = .ok (.istore_n 2, 1) := bd61 (btAt dk16alist_cJx4a65c_clear_da8c8_0_a 11 rfl)
theorem dJx4a65c_clear_da8c8_20 : decode cJx4a65c_clear_da8c8 20 = .ok (.aload_n 0, 1) := bd42 (btAt dk16alist_cJx4a65c_clear_da8c8_0_a 12 rfl)
theorem dJx4a65c_clear_da8c8_21 : decode cJx4a65c_clear_da8c8 21 = .ok (.iconst 0, 1) := bd3 (btAt dk16alist_cJx4a65c_clear_da8c8_0_a 13 rfl)
theorem dJx4a65c_clear_da8c8_22 : decode cJx4a65c_clear_da8c8 22 = .ok (.dup_x1, 1) := bd90 (btAt dk16alist_cJx4a65c_clear_da8c8_0_a 14 rfl)
theorem dJx4a65c_clear_da8c8_23 : decode cJx4a65c_clear_da8c8 23 = .ok (.putfield 48, 3) := bd181 (a := 0) (b := 48) (btAt dk16alist_cJx4a65c_clear_da8c8_0_a 15 rfl)
theorem dJx4a65c_clear_da8c8_26 : decode cJx4a65c_clear_da8c8 26 = .ok (.istore_n 3, 1) := bd62 (btAt dk16alist_cJx4a65c_clear_da8c8_0_a 16 rfl)
theorem dJx4a65c_clear_da8c8_27 : decode cJx4a65c_clear_da8c8 27 = .ok (.iload_n 3, 1) := bd29 (btAt dk16alist_cJx4a65c_clear_da8c8_0_a 17 rfl)
theorem dJx4a65c_clear_da8c8_28 : decode cJx4a65c_clear_da8c8 28 = .ok (.iload_n 2, 1) := bd28 (btAt dk16alist_cJx4a65c_clear_da8c8_0_a 18 rfl)
theorem dJx4a65c_clear_da8c8_29 : decode cJx4a65c_clear_da8c8 29 = .ok (.if_icmp .ge 13, 3) := bd162 (a := 0) (b := 13) (btAt dk16alist_cJx4a65c_clear_da8c8_0_a 19 rfl)
theorem dJx4a65c_clear_da8c8_32 : decode cJx4a65c_clear_da8c8 32 = .ok (.aload_n 1, 1) := bd43 (btAt dk16alist_cJx4a65c_clear_da8c8_0_a 20 rfl)
theorem dJx4a65c_clear_da8c8_33 : decode cJx4a65c_clear_da8c8 33 = .ok (.iload_n 3, 1) := bd29 (btAt dk16alist_cJx4a65c_clear_da8c8_0_a 21 rfl)
theorem dJx4a65c_clear_da8c8_34 : decode cJx4a65c_clear_da8c8 34 = .ok (.aconst_null, 1) := bd1 (btAt dk16alist_cJx4a65c_clear_da8c8_0_a 22 rfl)
theorem dJx4a65c_clear_da8c8_35 : decode cJx4a65c_clear_da8c8 35 = .ok (.aastore, 1) := bd83 (btAt dk16alist_cJx4a65c_clear_da8c8_0_a 23 rfl)
theorem dJx4a65c_clear_da8c8_36 : decode cJx4a65c_clear_da8c8 36 = .ok (.iinc 3 1, 3) := bd132 (a := 3) (b := 1) (btAt dk16alist_cJx4a65c_clear_da8c8_0_a 24 rfl)
theorem dJx4a65c_clear_da8c8_39 : decode cJx4a65c_clear_da8c8 39 = .ok (.goto (-12), 3) := bd167 (a := 255) (b := 244) (btAt dk16alist_cJx4a65c_clear_da8c8_0_a 25 rfl)
theorem dJx4a65c_clear_da8c8_42 : decode cJx4a65c_clear_da8c8 42 = .ok (.return_, 1) := bd177 (btAt dk16alist_cJx4a65c_clear_da8c8_0_a 26 rfl)
noncomputable def dk16alist_cJx4a65c_add_72be8_0 : List (Nat × List Nat) := [(0, [29]), (1, [44]), (2, [190]), (3, [160, 0, 8]), (6, [42]), (7, [182, 0, 129]), (10, [77]), (11, [44]), (12, [29]), (13, [43]), (14, [83]), (15, [42]), (16, [29]), (17, [4]), (18, [96]), (19, [181, 0, 48]), (22, [177])]
set_option maxRecDepth 100000 in
theorem dk16alist_cJx4a65c_add_72be8_0_a : btA cJx4a65c_add_72be8 dk16alist_cJx4a65c_add_72be8_0 = true := by decide +kernel
theorem dJx4a65c_add_72be8_0 : decode cJx4a65c_add_72be8 0 = .ok (.iload_n 3, 1) := bd29 (btAt dk16alist_cJx4a65c_add_72be8_0_a 0 rfl)
theorem dJx4a65c_add_72be8_1 : decode cJx4a65c_add_72be8 1 = .ok (.aload_n 2, 1) := bd44 (btAt dk16alist_cJx4a65c_add_72be8_0_a 1 rfl)
theorem dJx4a65c_add_72be8_2 : decode cJx4a65c_add_72be8 2 = .ok (.arraylength, 1) := bd190 (btAt dk16alist_cJx4a65c_add_72be8_0_a 2 rfl)
theorem dJx4a65c_add_72be8_3 : decode cJx4a65c_add_72be8 3 = .ok (.if_icmp .ne 8, 3) := bd160 (a := 0) (b := 8) (btAt dk16alist_cJx4a65c_add_72be8_0_a 3 rfl)
theorem dJx4a65c_add_72be8_6 : decode cJx4a65c_add_72be8 6 = .ok (.aload_n 0, 1) := bd42 (btAt dk16alist_cJx4a65c_add_72be8_0_a 4 rfl)
theorem dJx4a65c_add_72be8_7 : decode cJx4a65c_add_72be8 7 = .ok (.invokevirtual 129, 3) := bd182 (a := 0) (b := 129) (btAt dk16alist_cJx4a65c_add_72be8_0_a 5 rfl)
theorem dJx4a65c_add_72be8_10 : decode cJx4a65c_add_72be8 10 = .ok (.astore_n 2, 1) := bd77 (btAt dk16alist_cJx4a65c_add_72be8_0_a 6 rfl)
theorem dJx4a65c_add_72be8_11 : decode cJx4a65c_add_72be8 11 = .ok (.aload_n 2, 1) := bd44 (btAt dk16alist_cJx4a65c_add_72be8_0_a 7 rfl)
theorem dJx4a65c_add_72be8_12 : decode cJx4a65c_add_72be8 12 = .ok (.iload_n 3, 1) := bd29 (btAt dk16alist_cJx4a65c_add_72be8_0_a 8 rfl)
theorem dJx4a65c_add_72be8_13 : decode cJx4a65c_add_72be8 13 = .ok (.aload_n 1, 1) := bd43 (btAt dk16alist_cJx4a65c_add_72be8_0_a 9 rfl)
theorem dJx4a65c_add_72be8_14 : decode cJx4a65c_add_72be8 14 = .ok (.aastore, 1) := bd83 (btAt dk16alist_cJx4a65c_add_72be8_0_a 10 rfl)
theorem dJx4a65c_add_72be8_15 : decode cJx4a65c_add_72be8 15 = .ok (.aload_n 0, 1) := bd42 (btAt dk16alist_cJx4a65c_add_72be8_0_a 11 rfl)
theorem dJx4a65c_add_72be8_16 : decode cJx4a65c_add_72be8 16 = .ok (.iload_n 3, 1) := bd29 (btAt dk16alist_cJx4a65c_add_72be8_0_a 12 rfl)
theorem dJx4a65c_add_72be8_17 : decode cJx4a65c_add_72be8 17 = .ok (.iconst 1, 1) := bd4 (btAt dk16alist_cJx4a65c_add_72be8_0_a 13 rfl)
theorem dJx4a65c_add_72be8_18 : decode cJx4a65c_add_72be8 18 = .ok (.iadd, 1) := bd96 (btAt dk16alist_cJx4a65c_add_72be8_0_a 14 rfl)
theorem dJx4a65c_add_72be8_19 : decode cJx4a65c_add_72be8 19 = .ok (.putfield 48, 3) := bd181 (a := 0) (b := 48) (btAt dk16alist_cJx4a65c_add_72be8_0_a 15 rfl)
theorem dJx4a65c_add_72be8_22 : decode cJx4a65c_add_72be8 22 = .ok (.return_, 1) := bd177 (btAt dk16alist_cJx4a65c_add_72be8_0_a 16 rfl)
noncomputable def dk16alist_cJx4a65c_grow_92f84_0 : List (Nat × List Nat) := [(0, [42]), (1, [180, 0, 9]), (4, [190]), (5, [61]), (6, [28]), (7, [157, 0, 13]), (10, [42]), (11, [180, 0, 9]), (14, [178, 0, 39]), (17, [165, 0, 28]), (45, [42]), (46, [16, 10]), (48, [27]), (49, [184, 0, 79]), (52, [189, 0, 7]), (55, [90]), (56, [181, 0, 9]), (59, [176])]
set_option maxRecDepth 100000 in
theorem dk16alist_cJx4a65c_grow_92f84_0_a : btA cJx4a65c_grow_92f84 dk16alist_cJx4a65c_grow_92f84_0 = true := by decide +kernel
theorem dJx4a65c_grow_92f84_0 : decode cJx4a65c_grow_92f84 0 = .ok (.aload_n 0, 1) := bd42 (btAt dk16alist_cJx4a65c_grow_92f84_0_a 0 rfl)
theorem dJx4a65c_grow_92f84_1 : decode cJx4a65c_grow_92f84 1 = .ok (.getfield 9, 3) := bd180 (a := 0) (b := 9) (btAt dk16alist_cJx4a65c_grow_92f84_0_a 1 rfl)
theorem dJx4a65c_grow_92f84_4 : decode cJx4a65c_grow_92f84 4 = .ok (.arraylength, 1) := bd190 (btAt dk16alist_cJx4a65c_grow_92f84_0_a 2 rfl)
theorem dJx4a65c_grow_92f84_5 : decode cJx4a65c_grow_92f84 5 = .ok (.istore_n 2, 1) := bd61 (btAt dk16alist_cJx4a65c_grow_92f84_0_a 3 rfl)
theorem dJx4a65c_grow_92f84_6 : decode cJx4a65c_grow_92f84 6 = .ok (.iload_n 2, 1) := bd28 (btAt dk16alist_cJx4a65c_grow_92f84_0_a 4 rfl)
theorem dJx4a65c_grow_92f84_7 : decode cJx4a65c_grow_92f84 7 = .ok (.ifCond .gt 13, 3) := bd157 (a := 0) (b := 13) (btAt dk16alist_cJx4a65c_grow_92f84_0_a 5 rfl)
theorem dJx4a65c_grow_92f84_10 : decode cJx4a65c_grow_92f84 10 = .ok (.aload_n 0, 1) := bd42 (btAt dk16alist_cJx4a65c_grow_92f84_0_a 6 rfl)
theorem dJx4a65c_grow_92f84_11 : decode cJx4a65c_grow_92f84 11 = .ok (.getfield 9, 3) := bd180 (a := 0) (b := 9) (btAt dk16alist_cJx4a65c_grow_92f84_0_a 7 rfl)
theorem dJx4a65c_grow_92f84_14 : decode cJx4a65c_grow_92f84 14 = .ok (.getstatic 39, 3) := bd178 (a := 0) (b := 39) (btAt dk16alist_cJx4a65c_grow_92f84_0_a 8 rfl)
theorem dJx4a65c_grow_92f84_17 : decode cJx4a65c_grow_92f84 17 = .ok (.if_acmp .eq 28, 3) := bd165 (a := 0) (b := 28) (btAt dk16alist_cJx4a65c_grow_92f84_0_a 9 rfl)
theorem dJx4a65c_grow_92f84_45 : decode cJx4a65c_grow_92f84 45 = .ok (.aload_n 0, 1) := bd42 (btAt dk16alist_cJx4a65c_grow_92f84_0_a 10 rfl)
theorem dJx4a65c_grow_92f84_46 : decode cJx4a65c_grow_92f84 46 = .ok (.bipush 10, 2) := bd16 (a := 10) (btAt dk16alist_cJx4a65c_grow_92f84_0_a 11 rfl)
theorem dJx4a65c_grow_92f84_48 : decode cJx4a65c_grow_92f84 48 = .ok (.iload_n 1, 1) := bd27 (btAt dk16alist_cJx4a65c_grow_92f84_0_a 12 rfl)
theorem dJx4a65c_grow_92f84_49 : decode cJx4a65c_grow_92f84 49 = .ok (.invokestatic 79, 3) := bd184 (a := 0) (b := 79) (btAt dk16alist_cJx4a65c_grow_92f84_0_a 13 rfl)
theorem dJx4a65c_grow_92f84_52 : decode cJx4a65c_grow_92f84 52 = .ok (.anewarray 7, 3) := bd189 (a := 0) (b := 7) (btAt dk16alist_cJx4a65c_grow_92f84_0_a 14 rfl)
theorem dJx4a65c_grow_92f84_55 : decode cJx4a65c_grow_92f84 55 = .ok (.dup_x1, 1) := bd90 (btAt dk16alist_cJx4a65c_grow_92f84_0_a 15 rfl)
theorem dJx4a65c_grow_92f84_56 : decode cJx4a65c_grow_92f84 56 = .ok (.putfield 9, 3) := bd181 (a := 0) (b := 9) (btAt dk16alist_cJx4a65c_grow_92f84_0_a 16 rfl)
theorem dJx4a65c_grow_92f84_59 : decode cJx4a65c_grow_92f84 59 = .ok (.areturn, 1) := bd176 (btAt dk16alist_cJx4a65c_grow_92f84_0_a 17 rfl)
noncomputable def dk16alist_cJx4a65c_grow_d5877_0 : List (Nat × List Nat) := [(0, [42]), (1, [42]), (2, [180, 0, 48]), (5, [4]), (6, [96]), (7, [182, 0, 69]), (10, [176])]
set_option maxRecDepth 100000 in
theorem dk16alist_cJx4a65c_grow_d5877_0_a : btA cJx4a65c_grow_d5877 dk16alist_cJx4a65c_grow_d5877_0 = true := by decide +kernel
theorem dJx4a65c_grow_d5877_0 : decode cJx4a65c_grow_d5877 0 = .ok (.aload_n 0, 1) := bd42 (btAt dk16alist_cJx4a65c_grow_d5877_0_a 0 rfl)
theorem dJx4a65c_grow_d5877_1 : decode cJx4a65c_grow_d5877 1 = .ok (.aload_n 0, 1) := bd42 (btAt dk16alist_cJx4a65c_grow_d5877_0_a 1 rfl)
theorem dJx4a65c_grow_d5877_2 : decode cJx4a65c_grow_d5877 2 = .ok (.getfield 48, 3) := bd180 (a := 0) (b := 48) (btAt dk16alist_cJx4a65c_grow_d5877_0_a 2 rfl)
theorem dJx4a65c_grow_d5877_5 : decode cJx4a65c_grow_d5877 5 = .ok (.iconst 1, 1) := bd4 (btAt dk16alist_cJx4a65c_grow_d5877_0_a 3 rfl)
theorem dJx4a65c_grow_d5877_6 : decode cJx4a65c_grow_d5877 6 = .ok (.iadd, 1) := bd96 (btAt dk16alist_cJx4a65c_grow_d5877_0_a 4 rfl)
theorem dJx4a65c_grow_d5877_7 : decode cJx4a65c_grow_d5877 7 = .ok (.invokevirtual 69, 3) := bd182 (a := 0) (b := 69) (btAt dk16alist_cJx4a65c_grow_d5877_0_a 5 rfl)
theorem dJx4a65c_grow_d5877_10 : decode cJx4a65c_grow_d5877 10 = .ok (.areturn, 1) := bd176 (btAt dk16alist_cJx4a65c_grow_d5877_0_a 6 rfl)
noncomputable def dk16alist_cJx4a65c_add_9ea2d_0 : List (Nat × List Nat) := [(0, [42]), (1, [89]), (2, [180, 0, 63]), (5, [4]), (6, [96]), (7, [181, 0, 63]), (10, [42]), (11, [43]), (12, [42]), (13, [180, 0, 9]), (16, [42]), (17, [180, 0, 48]), (20, [182, 0, 131]), (23, [4]), (24, [172])]
set_option maxRecDepth 100000 in
theorem dk16alist_cJx4a65c_add_9ea2d_0_a : btA cJx4a65c_add_9ea2d dk16alist_cJx4a65c_add_9ea2d_0 = true := by decide +kernel
theorem dJx4a65c_add_9ea2d_0 : decode cJx4a65c_add_9ea2d 0 = .ok (.aload_n 0, 1) := bd42 (btAt dk16alist_cJx4a65c_add_9ea2d_0_a 0 rfl)
theorem dJx4a65c_add_9ea2d_1 : decode cJx4a65c_add_9ea2d 1 = .ok (.dup, 1) := bd89 (btAt dk16alist_cJx4a65c_add_9ea2d_0_a 1 rfl)
theorem dJx4a65c_add_9ea2d_2 : decode cJx4a65c_add_9ea2d 2 = .ok (.getfield 63, 3) := bd180 (a := 0) (b := 63) (btAt dk16alist_cJx4a65c_add_9ea2d_0_a 2 rfl)
theorem dJx4a65c_add_9ea2d_5 : decode cJx4a65c_add_9ea2d 5 = .ok (.iconst 1, 1) := bd4 (btAt dk16alist_cJx4a65c_add_9ea2d_0_a 3 rfl)
theorem dJx4a65c_add_9ea2d_6 : decode cJx4a65c_add_9ea2d 6 = .ok (.iadd, 1) := bd96 (btAt dk16alist_cJx4a65c_add_9ea2d_0_a 4 rfl)
theorem dJx4a65c_add_9ea2d_7 : decode cJx4a65c_add_9ea2d 7 = .ok (.putfield 63, 3) := bd181 (a := 0) (b := 63) (btAt dk16alist_cJx4a65c_add_9ea2d_0_a 5 rfl)
theorem dJx4a65c_add_9ea2d_10 : decode cJx4a65c_add_9ea2d 10 = .ok (.aload_n 0, 1) := bd42 (btAt dk16alist_cJx4a65c_add_9ea2d_0_a 6 rfl)
theorem dJx4a65c_add_9ea2d_11 : decode cJx4a65c_add_9ea2d 11 = .ok (.aload_n 1, 1) := bd43 (btAt dk16alist_cJx4a65c_add_9ea2d_0_a 7 rfl)
theorem dJx4a65c_add_9ea2d_12 : decode cJx4a65c_add_9ea2d 12 = .ok (.aload_n 0, 1) := bd42 (btAt dk16alist_cJx4a65c_add_9ea2d_0_a 8 rfl)
theorem dJx4a65c_add_9ea2d_13 : decode cJx4a65c_add_9ea2d 13 = .ok (.getfield 9, 3) := bd180 (a := 0) (b := 9) (btAt dk16alist_cJx4a65c_add_9ea2d_0_a 9 rfl)
theorem dJx4a65c_add_9ea2d_16 : decode cJx4a65c_add_9ea2d 16 = .ok (.aload_n 0, 1) := bd42 (btAt dk16alist_cJx4a65c_add_9ea2d_0_a 10 rfl)
theorem dJx4a65c_add_9ea2d_17 : decode cJx4a65c_add_9ea2d 17 = .ok (.getfield 48, 3) := bd180 (a := 0) (b := 48) (btAt dk16alist_cJx4a65c_add_9ea2d_0_a 11 rfl)
theorem dJx4a65c_add_9ea2d_20 : decode cJx4a65c_add_9ea2d 20 = .ok (.invokevirtual 131, 3) := bd182 (a := 0) (b := 131) (btAt dk16alist_cJx4a65c_add_9ea2d_0_a 12 rfl)
theorem dJx4a65c_add_9ea2d_23 : decode cJx4a65c_add_9ea2d 23 = .ok (.iconst 1, 1) := bd4 (btAt dk16alist_cJx4a65c_add_9ea2d_0_a 13 rfl)
theorem dJx4a65c_add_9ea2d_24 : decode cJx4a65c_add_9ea2d 24 = .ok (.ireturn, 1) := bd172 (btAt dk16alist_cJx4a65c_add_9ea2d_0_a 14 rfl)
noncomputable def dk16alist_cX3_begin_0 : List (Nat × List Nat) := [(0, [43]), (1, [182, 0, 45]), (4, [16, 20]), (6, [162, 0, 12]), (9, [43]), (10, [26]), (11, [184, 0, 51]), (14, [182, 0, 57]), (17, [87]), (18, [177])]
set_option maxRecDepth 100000 in
theorem dk16alist_cX3_begin_0_a : btA cX3_begin dk16alist_cX3_begin_0 = true := by decide +kernel
theorem dX3_begin_0 : decode cX3_begin 0 = .ok (.aload_n 1, 1) := bd43 (btAt dk16alist_cX3_begin_0_a 0 rfl)
theorem dX3_begin_1 : decode cX3_begin 1 = .ok (.invokevirtual 45, 3) := bd182 (a := 0) (b := 45) (btAt dk16alist_cX3_begin_0_a 1 rfl)
theorem dX3_begin_4 : decode cX3_begin 4 = .ok (.bipush 20, 2) := bd16 (a := 20) (btAt dk16alist_cX3_begin_0_a 2 rfl)
theorem dX3_begin_6 : decode cX3_begin 6 = .ok (.if_icmp .ge 12, 3) := bd162 (a := 0) (b := 12) (btAt dk16alist_cX3_begin_0_a 3 rfl)
theorem dX3_begin_9 : decode cX3_begin 9 = .ok (.aload_n 1, 1) := bd43 (btAt dk16alist_cX3_begin_0_a 4 rfl)
theorem dX3_begin_10 : decode cX3_begin 10 = .ok (.iload_n 0, 1) := bd26 (btAt dk16alist_cX3_begin_0_a 5 rfl)
theorem dX3_begin_11 : decode cX3_begin 11 = .ok (.invokestatic 51, 3) := bd184 (a := 0) (b := 51) (btAt dk16alist_cX3_begin_0_a 6 rfl)
theorem dX3_begin_14 : decode cX3_begin 14 = .ok (.invokevirtual 57, 3) := bd182 (a := 0) (b := 57) (btAt dk16alist_cX3_begin_0_a 7 rfl)
theorem dX3_begin_17 : decode cX3_begin 17 = .ok (.pop, 1) := bd87 (btAt dk16alist_cX3_begin_0_a 8 rfl)
theorem dX3_begin_18 : decode cX3_begin 18 = .ok (.return_, 1) := bd177 (btAt dk16alist_cX3_begin_0_a 9 rfl)
noncomputable def dk16alist_cJ15_checkIndex_7cf53_0 : List (Nat × List Nat) := [(0, [26]), (1, [27]), (2, [1]), (3, [184, 0, 105]), (6, [172])]
set_option maxRecDepth 100000 in
theorem dk16alist_cJ15_checkIndex_7cf53_0_a : btA cJ15_checkIndex_7cf53 dk16alist_cJ15_checkIndex_7cf53_0 = true := by decide +kernel
theorem dJ15_checkIndex_7cf53_0 : decode cJ15_checkIndex_7cf53 0 = .ok (.iload_n 0, 1) := bd26 (btAt dk16alist_cJ15_checkIndex_7cf53_0_a 0 rfl)
theorem dJ15_checkIndex_7cf53_1 : decode cJ15_checkIndex_7cf53 1 = .ok (.iload_n 1, 1) := bd27 (btAt dk16alist_cJ15_checkIndex_7cf53_0_a 1 rfl)
theorem dJ15_checkIndex_7cf53_2 : decode cJ15_checkIndex_7cf53 2 = .ok (.aconst_null, 1) := bd1 (btAt dk16alist_cJ15_checkIndex_7cf53_0_a 2 rfl)
theorem dJ15_checkIndex_7cf53_3 : decode cJ15_checkIndex_7cf53 3 = .ok (.invokestatic 105, 3) := bd184 (a := 0) (b := 105) (btAt dk16alist_cJ15_checkIndex_7cf53_0_a 3 rfl)
theorem dJ15_checkIndex_7cf53_6 : decode cJ15_checkIndex_7cf53 6 = .ok (.ireturn, 1) := bd172 (btAt dk16alist_cJ15_checkIndex_7cf53_0_a 4 rfl)
noncomputable def dk16alist_cJx4a65c_elementData_915e3_0 : List (Nat × List Nat) := [(0, [42]), (1, [180, 0, 9]), (4, [27]), (5, [50]), (6, [176])]
set_option maxRecDepth 100000 in
theorem dk16alist_cJx4a65c_elementData_915e3_0_a : btA cJx4a65c_elementData_915e3 dk16alist_cJx4a65c_elementData_915e3_0 = true := by decide +kernel
theorem dJx4a65c_elementData_915e3_0 : decode cJx4a65c_elementData_915e3 0 = .ok (.aload_n 0, 1) := bd42 (btAt dk16alist_cJx4a65c_elementData_915e3_0_a 0 rfl)
theorem dJx4a65c_elementData_915e3_1 : decode cJx4a65c_elementData_915e3 1 = .ok (.getfield 9, 3) := bd180 (a := 0) (b := 9) (btAt dk16alist_cJx4a65c_elementData_915e3_0_a 1 rfl)
theorem dJx4a65c_elementData_915e3_4 : decode cJx4a65c_elementData_915e3 4 = .ok (.iload_n 1, 1) := bd27 (btAt dk16alist_cJx4a65c_elementData_915e3_0_a 2 rfl)
theorem dJx4a65c_elementData_915e3_5 : decode cJx4a65c_elementData_915e3 5 = .ok (.aaload, 1) := bd50 (btAt dk16alist_cJx4a65c_elementData_915e3_0_a 3 rfl)
theorem dJx4a65c_elementData_915e3_6 : decode cJx4a65c_elementData_915e3 6 = .ok (.areturn, 1) := bd176 (btAt dk16alist_cJx4a65c_elementData_915e3_0_a 4 rfl)
noncomputable def dk16alist_cJx4a65c_get_915e3_0 : List (Nat × List Nat) := [(0, [27]), (1, [42]), (2, [180, 0, 48]), (5, [184, 0, 118]), (8, [87]), (9, [42]), (10, [27]), (11, [182, 0, 123]), (14, [176])]
set_option maxRecDepth 100000 in
theorem dk16alist_cJx4a65c_get_915e3_0_a : btA cJx4a65c_get_915e3 dk16alist_cJx4a65c_get_915e3_0 = true := by decide +kernel
theorem dJx4a65c_get_915e3_0 : decode cJx4a65c_get_915e3 0 = .ok (.iload_n 1, 1) := bd27 (btAt dk16alist_cJx4a65c_get_915e3_0_a 0 rfl)
theorem dJx4a65c_get_915e3_1 : decode cJx4a65c_get_915e3 1 = .ok (.aload_n 0, 1) := bd42 (btAt dk16alist_cJx4a65c_get_915e3_0_a 1 rfl)
theorem dJx4a65c_get_915e3_2 : decode cJx4a65c_get_915e3 2 = .ok (.getfield 48, 3) := bd180 (a := 0) (b := 48) (btAt dk16alist_cJx4a65c_get_915e3_0_a 2 rfl)
theorem dJx4a65c_get_915e3_5 : decode cJx4a65c_get_915e3 5 = .ok (.invokestatic 118, 3) := bd184 (a := 0) (b := 118) (btAt dk16alist_cJx4a65c_get_915e3_0_a 3 rfl)
theorem dJx4a65c_get_915e3_8 : decode cJx4a65c_get_915e3 8 = .ok (.pop, 1) := bd87 (btAt dk16alist_cJx4a65c_get_915e3_0_a 4 rfl)
theorem dJx4a65c_get_915e3_9 : decode cJx4a65c_get_915e3 9 = .ok (.aload_n 0, 1) := bd42 (btAt dk16alist_cJx4a65c_get_915e3_0_a 5 rfl)
theorem dJx4a65c_get_915e3_10 : decode cJx4a65c_get_915e3 10 = .ok (.iload_n 1, 1) := bd27 (btAt dk16alist_cJx4a65c_get_915e3_0_a 6 rfl)
theorem dJx4a65c_get_915e3_11 : decode cJx4a65c_get_915e3 11 = .ok (.invokevirtual 123, 3) := bd182 (a := 0) (b := 123) (btAt dk16alist_cJx4a65c_get_915e3_0_a 7 rfl)
theorem dJx4a65c_get_915e3_14 : decode cJx4a65c_get_915e3 14 = .ok (.areturn, 1) := bd176 (btAt dk16alist_cJx4a65c_get_915e3_0_a 8 rfl)
noncomputable def nestC : List Cond := [.castable "java/lang/Integer" "java/lang/Object"]
/-- the boxes of small numbers, the empty row that a new list has, what says that an Integer may be stored -/
noncomputable def Gi (ad : Nat → Nat) (cB bS : Nat) (A : Nat → Prop) (U : State) : Prop := vb_C ad A U U.heap ∧ va_Z "java/lang/Integer$IntegerCache" "high" "I" (.int 127) A U U.heap ∧ va_Z "java/lang/Integer$IntegerCache" "cache" "[Ljava/lang/Integer;" (.ref cB) A U U.heap ∧ va_T (.object "java/lang/Integer") cB 256 (fun k => .ref (ad k)) A U U.heap ∧ va_Nw (.castable "java/lang/Integer" "java/lang/Object") U ∧ va_Z "java/util/ArrayList" "DEFAULTCAPACITY_EMPTY_ELEMENTDATA" "[Ljava/lang/Object;" (.ref bS) A U U.heap ∧ va_T (.object "java/lang/Object") bS 0 (fun _ => .null) A U U.heap ∧ va_AO "java/lang/Object" U
theorem Gi.same {ad : Nat → Nat} {cB bS : Nat} {A : Nat → Prop} {u U : State} (h : Gi ad cB bS A u) (hvm : u.vm = U.vm) (hh : U.heap = u.heap) : Gi ad cB bS A U := by
  obtain ⟨h1, h2, h3, h4, h5, h6, h7, h8⟩ := h
  have hv : u.vm.Alike U.vm := by rw [hvm]; exact Vm.Alike.refl _
  refine ⟨?_, ?_, ?_, ?_, va_Nw.same rfl hvm h5, ?_, ?_, h8.moved hv⟩
  · rw [hh]; exact h1.moved hv
  · rw [hh]; exact h2.moved hv
  · rw [hh]; exact h3.moved hv
  · rw [hh]; exact h4.moved hv
  · rw [hh]; exact h6.moved hv
  · rw [hh]; exact h7.moved hv
theorem Gi.mv {ad : Nat → Nat} {cB bS : Nat} {A : Nat → Prop} {U : State} (g : _) (mk : _) (a : _) (h : Gi ad cB bS A U) : Gi ad cB bS A (U.calling g mk a) := h.same rfl rfl
theorem Gi.call {ad : Nat → Nat} {cB bS : Nat} {A B : Nat → Prop} {s U : State} {H : Heap} {locs : List Loc} (h : Gi ad cB bS A s) (hS : va_S A s.heap H locs) (hU : U.heap = H) (hW : s.WarmedH U.vm) (hB : ∀ q, B q → A q) : Gi ad cB bS B U := by
  obtain ⟨h1, h2, h3, h4, h5, h6, h7, h8⟩ := h
  refine ⟨?_, ?_, ?_, ?_, va_Nw.warmC hW h5, ?_, ?_, h8.moved hW.alike⟩
  · rw [hU]; exact ((h1.kept (H1 := H) hS.2.1).moved hW.alike).narrow hB
  · rw [hU]; exact ((h2.kept (H1 := H) hS.2.1).moved hW.alike).narrow hB
  · rw [hU]; exact ((h3.kept (H1 := H) hS.2.1).moved hW.alike).narrow hB
  · rw [hU]; exact ((h4.kept (H1 := H) hS.2.1).moved hW.alike).narrow hB
  · rw [hU]; exact ((h6.kept (H1 := H) hS.2.1).moved hW.alike).narrow hB
  · rw [hU]; exact ((h7.kept (H1 := H) hS.2.1).moved hW.alike).narrow hB
theorem Gi.callF {ad : Nat → Nat} {cB bS : Nat} {A : Nat → Prop} {s U : State} {H : Heap} {locs : List Loc} (h : Gi ad cB bS A s) (hS : va_S A s.heap H locs) (hU : U.heap = H) (hW : s.WarmedH U.vm) : Gi ad cB bS (fun _ => False) U := h.call hS hU hW (fun _ q => q.elim)
noncomputable def okL (ad : Nat → Nat) (f : Nat → Option Nat) (n : Nat) (L : List Nat) : Prop := L.length = n ∧ ∀ k0, k0 < n → L.getD k0 0 < 100 ∧ f k0 = some (ad (L.getD k0 0 + 128))
theorem okL_nil {ad : Nat → Nat} {f : Nat → Option Nat} : okL ad f 0 [] := ⟨rfl, fun k h => absurd h (Nat.not_lt_zero k)⟩
theorem okL_as {ad : Nat → Nat} {f : Nat → Option Nat} {n : Nat} {L a b : List Nat} (h : okL ad f n ((L ++ a) ++ b)) : okL ad f n (L ++ (a ++ b)) := by rw [← List.append_assoc]; exact h
theorem okL_add {ad : Nat → Nat} {f : Nat → Option Nat} {n b c : Nat} {L : List Nat} (h : okL ad f n L) (hb : c = b + 128 ∧ b < 100) : okL ad (va_up f n (some (ad c))) (n + 1) (L ++ [b]) := by
  obtain ⟨rfl, h2⟩ := hb
  obtain ⟨e, h⟩ := h
  refine ⟨by rw [List.length_append, e]; rfl, fun k hk => ?_⟩
  by_cases q : k = n
  · subst q
    rw [← e, getD_r]
    exact ⟨h2, by simp [va_up]⟩
  · rw [getD_l (by omega)]
    exact ⟨(h k (by omega)).1, by simp only [va_up, if_neg q]; exact (h k (by omega)).2⟩
theorem vb_of {b : Nat} (h : b < 100) : vb_c (b + 128) = nI b := by
  have e : nI (b + 128) - nI 128 = nI (b + 128 - 128) := pk_sub (a := b + 128) (b := 128) (by omega)
  rw [show b + 128 - 128 = b by omega] at e
  exact e
/-- a static call that names a class below the one whose body runs -/
noncomputable def u2W (own : String) (idx : Nat) (x y : MethodName) (ws : List Cond) : List Cond := ([.methodLink own idx x, .sameMethod x.cls y.cls x.name x.desc, .static y, .initialized y.cls] : List Cond) ++ ws
theorem u2_ok {own : String} {idx : Nat} {x y : MethodName} {ws : List Cond} (h : ∀ w ∈ ws, okW w) : ∀ w ∈ u2W own idx x y ws, okW w := by
  intro w hw
  rcases List.mem_append.mp hw with q | q
  · simp only [List.mem_cons, List.not_mem_nil, or_false] at q
    rcases q with rfl | rfl | rfl | rfl <;> exact Or.inl (by first | rfl | simp [Cond.onTables, Cond.keeps, Cond.steady])
  · exact h w q
noncomputable def xb4 : MethodName := ⟨RX4, "begin", "(ILjava/util/ArrayList;)V"⟩
noncomputable def xb6 : MethodName := ⟨RX6, "begin", "(ILjava/util/ArrayList;)V"⟩
noncomputable def xb1 : MethodName := ⟨RX1, "begin", "(ILjava/util/ArrayList;)V"⟩
noncomputable def xb9 : MethodName := ⟨RX9, "begin", "(ILjava/util/ArrayList;)V"⟩
noncomputable def xb10 : MethodName := ⟨RX10, "begin", "(ILjava/util/ArrayList;)V"⟩
noncomputable def xb7 : MethodName := ⟨RX7, "begin", "(ILjava/util/ArrayList;)V"⟩
noncomputable def begW : List Cond := u2W RX4 17 xb4 yX3_begin wsX3_begin ++ (u2W RX6 11 xb6 yX3_begin wsX3_begin ++ (u2W RX1 7 xb1 yX3_begin wsX3_begin ++ (u2W RX9 17 xb9 yX3_begin wsX3_begin ++ (u2W RX10 36 xb10 yX3_begin wsX3_begin ++ (u2W RX7 16 xb7 yX3_begin wsX3_begin)))))
theorem begW_ok : ∀ w ∈ begW, okW w := by
  have h : ∀ w ∈ wsX3_begin, okW w := fun w h => (ggX3_doSees_X3_begin w h).2
  exact List.forall_mem_append.mpr ⟨u2_ok h, List.forall_mem_append.mpr ⟨u2_ok h, List.forall_mem_append.mpr ⟨u2_ok h, List.forall_mem_append.mpr ⟨u2_ok h, List.forall_mem_append.mpr ⟨u2_ok h, u2_ok h⟩⟩⟩⟩⟩
noncomputable def Gb (A : Nat → Prop) (U : State) : Prop := ∀ w ∈ begW, w.before #[] U = true
theorem Gb.same {A : Nat → Prop} {u U : State} (h : Gb A u) (hvm : u.vm = U.vm) (hh : U.heap = u.heap) : Gb A U := fun w hw => word_at (s := u) (U := U) (by rw [← hvm]; exact State.WarmedH.refl u) (begW_ok w hw) (h w hw)
theorem Gb.mv {A : Nat → Prop} {U : State} (g : _) (mk : _) (a : _) (h : Gb A U) : Gb A (U.calling g mk a) := h.same rfl rfl
theorem Gb.call {A B : Nat → Prop} {s U : State} {H : Heap} {locs : List Loc} (h : Gb A s) (hS : va_S A s.heap H locs) (hU : U.heap = H) (hW : s.WarmedH U.vm) (hB : ∀ q, B q → A q) : Gb B U := fun w hw => word_at hW (begW_ok w hw) (h w hw)
theorem Gb.callF {A : Nat → Prop} {s U : State} {H : Heap} {locs : List Loc} (h : Gb A s) (hS : va_S A s.heap H locs) (hU : U.heap = H) (hW : s.WarmedH U.vm) : Gb (fun _ => False) U := fun w hw => word_at hW (begW_ok w hw) (h w hw)
noncomputable def u2_C (R : Room) (s : State) (args : Array Value) (own : String) (index : Nat) (x y : MethodName) (bytes : ByteArray) (maxL : Nat) (ret : Option FieldType) (ws : List Cond) (rm : Room) (mc ms n : Nat) : Prop :=
  (rm.cells = mc ∧ rm.slots = ms ∧ rm.frames + 1 ≤ R.frames ∧ 8 + (maxL + 11) + rm.locals ≤ R.locals ∧ (∀ w ∈ ws, ∀ (a' : Array Value) (U : State), s.WarmedH U.vm → w.before a' U = true) ∧ Cond.code y bytes maxL ret ∈ ws) ∧
  (Cond.methodLink own index x).before args s = true ∧ (Cond.sameMethod x.cls y.cls x.name x.desc).before args s = true ∧ (Cond.static y).before args s = true ∧ (Cond.initialized y.cls).before args s = true ∧ (Cond.code y bytes maxL ret).before args s = true ∧ x.name = y.name ∧ x.desc = y.desc ∧ (y.cls ≠ "java/lang/invoke/MethodHandle" ∧ y.cls ≠ "java/lang/invoke/VarHandle") ∧ (∀ sig, parseMethodDescriptor y.desc = some sig → n = sig.parameters.length)
theorem u2_cw {R : Room} {s : State} {args : Array Value} {own : String} {index maxL mc ms : Nat} {x y : MethodName} {bytes : ByteArray} {ret : Option FieldType} {ws ws' : List Cond} {rm : Room} {A : Nat → Prop} (n : Nat) (hG : Gb A s) (hT : ∀ w ∈ u2W own index x y ws, w ∈ begW) (hw : ws = Cond.code y bytes maxL ret :: ws') (hrc : rm.cells = mc) (hrs : rm.slots = ms) (hxn : x.name = y.name) (hxd : x.desc = y.desc)
    (hd : y.cls ≠ "java/lang/invoke/MethodHandle" ∧ y.cls ≠ "java/lang/invoke/VarHandle" ∧ (parseMethodDescriptor y.desc).map (fun d => d.parameters.length) = some n) (hR : rm.frames + 1 ≤ R.frames ∧ 8 + (maxL + 11) + rm.locals ≤ R.locals) : u2_C R s args own index x y bytes maxL ret ws rm mc ms n := by
  have ok : ∀ w ∈ u2W own index x y ws, ∀ (a' : Array Value) (U : State), s.WarmedH U.vm → w.before a' U = true := fun w h a' U hW => word_at hW (begW_ok w (hT w h)) (hG w (hT w h))
  have ok1 : ∀ w ∈ u2W own index x y ws, w.before args s = true := fun w h => ok w h args s (State.WarmedH.refl s)
  have hin : ∀ w ∈ ws, w ∈ u2W own index x y ws := fun w h => List.mem_append_right _ h
  have hc : Cond.code y bytes maxL ret ∈ ws := by rw [hw]; exact List.mem_cons_self
  refine ⟨⟨hrc, hrs, hR.1, hR.2, fun w h => ok w (hin w h), hc⟩, ok1 _ (by simp [u2W]), ok1 _ (by simp [u2W]), ok1 _ (by simp [u2W]), ok1 _ (by simp [u2W]), ok1 _ (hin _ hc), hxn, hxd, ⟨hd.1, hd.2.1⟩, fun sig h => ?_⟩
  have h2 := hd.2.2
  rw [h] at h2
  exact (Option.some.inj h2).symm
section
variable {p : Program} {l : Launch} {e : Env} {R : Room} {s : State} {m : MethodId} {args : Array Value} {below : List Frame} {meth : Method} {c : Code} {H : Heap} {locs : List Loc} {cells slots : Nat}
theorem va_runU2 {x y : MethodName} {bytes cc : ByteArray} {maxL nL mc ms n index : Nat} {ret : Option FieldType} {ws : List Cond} {rm : Room} {Pc : Array Value → State → Prop} {Qc : Array Value → State → Outcome → State → Prop} {free : Addr → Prop} {Ts : List Cond} {own : String} {As rest : List Value} {g : JFrame}
    (S : CallFix p m c cc nL s args Ts own) (hM : Met l y ws rm Pc Qc mc ms free) (cw : u2_C R s args own index x y bytes maxL ret ws rm mc ms n) (hp : PreS s H Pc As)
    (hg : g.method = m) (hn : As.length = n) (hsize : g.locals.size = nL) (hstack : g.stack = As.reverse ++ rest) (hW : 2 * g.monitorRoom + (rest.map fun v => v.category).sum ≤ 8) (hdg : decode cc g.pc = .ok (.invokestatic index, 3)) (hf : cells + mc ≤ R.cells ∧ slots + ms ≤ R.slots) :
    va_Run p l e R s m args below meth c H locs cells slots mc ms g rest (Qc As.toArray) (free) := by
  obtain ⟨⟨hrc, hrs, hfr, hlo, hws, hcw⟩, hl1, hl2, hst, hini, hcode, hxn, hxd, hy, hlen⟩ := cw
  have hK : Back l R p e below s args y 3 8 (PreOf R mc ms Pc) (PostOf Qc mc ms free) := back_of (bytes := bytes) (maxL := maxL) (ret := ret) hM hp.1 hrc hrs hfr hlo hws hcw (fun a' U hW => word_at hW (Or.inl (by first | rfl | simp [Cond.onTables, Cond.keeps, Cond.steady])) hini)
  obtain ⟨hx, hb, hml, ho, -⟩ := S
  have hPc := hp.2
  intro T hT X
  obtain ⟨mk, hnamed⟩ := Cond.code_named hcode
  obtain ⟨methM, cM, hmethM, -, -, -, -, -, -, hsigM⟩ := Cond.code_spec hnamed hcode
  have hstatic : methM.isStatic = true := Cond.static_spec hnamed hmethM hst
  obtain ⟨kP, hkP, -⟩ := className_of_methodNamed hnamed
  have hinitP : kP.init = .initialized := Cond.initialized_spec (findClass_of_methodNamed hnamed) hkP hini
  have hnm : s.methodNamed? ⟨y.cls, x.name, x.desc⟩ = some mk := by rw [hxn, hxd]; exact hnamed
  obtain ⟨vm₁, X₁, hstep₁⟩ := X.invokestaticUp hx ho hl1 hl2 hy hnm hmethM hstatic hkP hinitP (g := g) hg (argsL := As) (rest := rest) (hn.trans (hlen _ hsigM)) hstack (by rw [hb]; exact hdg)
  obtain ⟨v, ⟨U', l2, c2, s2⟩, X', ⟨g', mk', t, L, e1, e2, hq, h1, hL, h2, h3⟩, hsteps⟩ := hK m meth c ⟨T.setVm vm₁, locs, cells, slots⟩ { g with stack := rest } (.invokestatic index) mk As.toArray X₁ hg (hsize.trans hml.symm) (by rw [hb]; exact hdg) hW (X₁.named hnamed) ⟨hf.1, hf.2, hPc (T.setVm vm₁) hT X₁.warmed⟩
  dsimp only [Pt.U, Pt.locs, Pt.cells, Pt.slots] at X' e1 e2 h1 h2 h3 hsteps
  subst h1; subst h2; subst h3
  exact ⟨v, (T.setVm vm₁).calling g' mk' As.toArray, t, U', L, hT, X', hL, e1, e2, hq, fun target h => hstep₁ _ fun acts => by rw [doInvoke_state]; exact hsteps.trans h⟩
end

theorem inb4 : ∀ w ∈ u2W RX4 17 xb4 yX3_begin wsX3_begin, w ∈ begW := fun w h => List.mem_append_left _ h

theorem inb6 : ∀ w ∈ u2W RX6 11 xb6 yX3_begin wsX3_begin, w ∈ begW := fun w h => List.mem_append_right _ (List.mem_append_left _ h)

theorem inb1 : ∀ w ∈ u2W RX1 7 xb1 yX3_begin wsX3_begin, w ∈ begW := fun w h => List.mem_append_right _ (List.mem_append_right _ (List.mem_append_left _ h))

theorem inb9 : ∀ w ∈ u2W RX9 17 xb9 yX3_begin wsX3_begin, w ∈ begW := fun w h => List.mem_append_right _ (List.mem_append_right _ (List.mem_append_right _ (List.mem_append_left _ h)))

theorem inb10 : ∀ w ∈ u2W RX10 36 xb10 yX3_begin wsX3_begin, w ∈ begW := fun w h => List.mem_append_right _ (List.mem_append_right _ (List.mem_append_right _ (List.mem_append_right _ (List.mem_append_left _ h))))

theorem inb7 : ∀ w ∈ u2W RX7 16 xb7 yX3_begin wsX3_begin, w ∈ begW := fun w h => List.mem_append_right _ (List.mem_append_right _ (List.mem_append_right _ (List.mem_append_right _ (List.mem_append_right _ (h)))))

theorem nI_g128 {k : Nat} (h : k < 100) : ¬ nI k < -128 := fun q => nI_pos (n := k) (by omega) (Int32.lt_trans q (by decide))

theorem kc_valueOf_0 : (.fieldLink RJ6 191 "java/lang/Integer$IntegerCache" "high" "I" : Cond) ∈ wsJ6_valueOf_2dffe := kc_of 938 rfl rfl rfl
theorem kc_valueOf_1 : (.fieldLink RJ6 195 "java/lang/Integer$IntegerCache" "cache" "[Ljava/lang/Integer;" : Cond) ∈ wsJ6_valueOf_2dffe := kc_of 940 rfl rfl rfl
set_option maxHeartbeats 4000000 in
set_option maxRecDepth 100000 in
theorem c_valueOf (l : Launch) (dC : Nat → ClassId) (dI : Nat → Nat → Nat) (ad : Nat → Nat) (cB bS : Nat) (k : Nat) (hk99 : k < 100) : Met l yJ6_valueOf_2dffe wsJ6_valueOf_2dffe ({ frames := 0, cells := 0, slots := 0, locals := 0 } : Room) (va_Pc [.int (nI k)] (fun U => Gi ad cB bS (fun _ => False) U)) (va_Sq (fun r => r = some (ad (k + 128)))) 0 0 (fun _ => False) := by
  refine met_ofQ (cc := cJ6_valueOf_2dffe) (maxL := 1) (ret := (some (.object "java/lang/Integer"))) (by decide) rfl ?_
  intro p e s m args below meth c s₁ Q B hml hv hQ
  obtain ⟨rfl, hI_⟩ := hv
  have hx := B.exec
  have hb := B.bytes
  have hr := B.returns
  have hts := atoms_spec (ws := wsJ6_valueOf_2dffe) B.pre
  have hown : s.vm.findClass RJ6 = some m.cls := findClass_of_methodNamed B.named
  have hlocks := B.notSynchronized
  obtain ⟨A, hAe⟩ : ∃ A : Nat → Prop, A = fun _ => False := ⟨_, rfl⟩
  rw [← hAe] at hQ hI_
  have hS : va_S A s.heap s.heap [] := va_S.rf
  have hl := lv_entry [.int (nI k)] (n := 1) (Nat.le_of_ble_eq_true rfl)
  rw [lg_entry_eq]
  generalize (lg_sl [.int (nI k)] ++ List.replicate (1 - (lg_sl [.int (nI k)]).length) Slot.unset).toArray = ls at hl ⊢
  generalize hag : ([.int (nI k)] : List Value).toArray = args at hts hQ ⊢
  have hl : lv_has ls 1 [(0, .int (nI k))] := hl
  refine lv_iload_n hx hb dJ6_valueOf_2dffe_0 rfl (lv_at hl 0 rfl) ?_
  refine lv_bipush (v := (-128)) hx hb dJ6_valueOf_2dffe_1 (by decide) ?_
  refine lv_icmp_lt (tgt := 23) hx hb dJ6_valueOf_2dffe_3 (by decide) (fun c_1 => absurd c_1 (nI_g128 hk99)) (fun c_1 => ?_)
  refine lv_iload_n hx hb dJ6_valueOf_2dffe_6 rfl (lv_at hl 0 rfl) ?_
  refine va_gets (C := "java/lang/Integer$IntegerCache") (n := "high") (d := "I") (v := .int 127) hx hb hI_.2.1 hS hown (hts (.fieldLink RJ6 191 "java/lang/Integer$IntegerCache" "high" "I") kc_valueOf_0) (fun _ h9 => h9) dJ6_valueOf_2dffe_7 ?_
  refine lv_icmp_gt (tgt := 23) hx hb dJ6_valueOf_2dffe_10 (by decide) (fun c_2 => ?_) (fun c_2 => ?_)
  · skip
    have c_2 : 127 < k := (nI_ltI (a := 127) (b := k) (by omega) (by omega)).mp c_2
    exfalso
    omega
  · skip
    have c_2 : ¬ 127 < k := fun q => c_2 ((nI_ltI (a := 127) (b := k) (by omega) (by omega)).mpr q)
    refine va_gets (C := "java/lang/Integer$IntegerCache") (n := "cache") (d := "[Ljava/lang/Integer;") (v := .ref cB) hx hb hI_.2.2.1 hS hown (hts (.fieldLink RJ6 195 "java/lang/Integer$IntegerCache" "cache" "[Ljava/lang/Integer;") kc_valueOf_1) (fun _ h9 => h9) dJ6_valueOf_2dffe_13 ?_
    refine lv_iload_n hx hb dJ6_valueOf_2dffe_16 rfl (lv_at hl 0 rfl) ?_
    refine lv_sipush (v := 128) hx hb dJ6_valueOf_2dffe_17 (by decide) ?_
    refine lv_iadd hx hb dJ6_valueOf_2dffe_20 ?_
    refine qi_as (y := nI (k + 128)) (nI_add k 128) ?_
    refine vb_tq (v := .ref (ad (k + 128))) hx hb hI_.2.2.2.1 hS (vp_in_nI (n := k + 128) (N := 256) (by omega) (by omega)) (by rw [nI_clamp (by omega)]) dJ6_valueOf_2dffe_21 ?_
    rw [hQ]
    exact W.aret (v := .ref (ad (k + 128))) hx hb hr (Or.inl ⟨_, rfl⟩) (Or.inr ⟨_, rfl⟩) (fun tQ htQ hWQ => ⟨some (ad (k + 128)), rfl, rfl, by rw [htQ]⟩) (fun q hq => absurd hq List.not_mem_nil) dJ6_valueOf_2dffe_22

theorem kc_intValue_0 : (.fieldLink RJ6 205 "java/lang/Integer" "value" "I" : Cond) ∈ wsJ6_intValue_8abf5 := kc_of 951 rfl rfl rfl
set_option maxHeartbeats 4000000 in
set_option maxRecDepth 100000 in
theorem c_intValue (l : Launch) (dC : Nat → ClassId) (dI : Nat → Nat → Nat) (ad : Nat → Nat) (cB bS : Nat) (k : Nat) (hk256 : k < 256) : Met l yJ6_intValue_8abf5 wsJ6_intValue_8abf5 ({ frames := 0, cells := 0, slots := 0, locals := 0 } : Room) (va_Pc [.ref (ad k)] (fun U => Gi ad cB bS (fun _ => False) U)) (vp_Si (fun r => r = vb_c k)) 0 0 (fun _ => False) := by
  refine met_ofQ (cc := cJ6_intValue_8abf5) (maxL := 1) (ret := (some .int)) (by decide) rfl ?_
  intro p e s m args below meth c s₁ Q B hml hv hQ
  obtain ⟨rfl, hI_⟩ := hv
  have hx := B.exec
  have hb := B.bytes
  have hr := B.returns
  have hts := atoms_spec (ws := wsJ6_intValue_8abf5) B.pre
  have hown : s.vm.findClass RJ6 = some m.cls := findClass_of_methodNamed B.named
  have hlocks := B.notSynchronized
  obtain ⟨A, hAe⟩ : ∃ A : Nat → Prop, A = fun _ => False := ⟨_, rfl⟩
  rw [← hAe] at hQ hI_
  have hS : va_S A s.heap s.heap [] := va_S.rf
  have hl := lv_entry [.ref (ad k)] (n := 1) (Nat.le_of_ble_eq_true rfl)
  rw [lg_entry_eq]
  generalize (lg_sl [.ref (ad k)] ++ List.replicate (1 - (lg_sl [.ref (ad k)]).length) Slot.unset).toArray = ls at hl ⊢
  generalize hag : ([.ref (ad k)] : List Value).toArray = args at hts hQ ⊢
  have hl : lv_has ls 1 [(0, .ref (ad k))] := hl
  refine lv_aload_n hx hb dJ6_intValue_8abf5_0 rfl (lv_at hl 0 rfl) ?_
  refine vk_getf (o := "java/lang/Integer") (n := "value") (d := "I") (v := .int (vb_c k)) hx hb (hI_.1.2 k hk256) hS hown (hts (.fieldLink RJ6 205 "java/lang/Integer" "value" "I") kc_intValue_0) (fun _ h9 => h9) dJ6_intValue_8abf5_1 ?_
  rw [hQ]
  exact W.iret (v := vb_c k) hx hb hr (fun tQ htQ hWQ => ⟨vb_c k, rfl, rfl, by rw [htQ]⟩) (fun q hq => absurd hq List.not_mem_nil) dJ6_intValue_8abf5_4

theorem kc_lsize1_0 : ∀ w ∈ wsJx4a65c0, w ∈ wsJx4a65c_size_8abf5 := fun w h => List.mem_cons_of_mem _ (gin_wsJx4a65c0 w h)
theorem kc_lsize1_1 : (.fieldLink RJx4a65c 48 "java/util/ArrayList" "size" "I" : Cond) ∈ wsJx4a65c_size_8abf5 := kc_of 317 rfl rfl rfl
set_option maxHeartbeats 4000000 in
set_option maxRecDepth 100000 in
theorem c_lsize1 (l : Launch) (dC : Nat → ClassId) (dI : Nat → Nat → Nat) (bo : Nat) (aEl : Nat) (sz_ : Nat) (mdc : Int32) : Met l yJx4a65c_size_8abf5 wsJx4a65c_size_8abf5 ({ frames := 0, cells := 0, slots := 0, locals := 0 } : Room) (va_Pc [.ref bo] (fun U => va_P (dC, dI) vwCl [(zo1iri bo mdc aEl (nI sz_))] U.heap ∧ va_K (dC, dI) vwCl [] U)) (vp_Si (fun r => r = nI sz_)) 0 0 (fun _ => False) := by
  refine met_ofQ (cc := cJx4a65c_size_8abf5) (maxL := 1) (ret := (some .int)) (by decide) rfl ?_
  intro p e s m args below meth c s₁ Q B hml hv hQ
  obtain ⟨rfl, hP, hK⟩ := hv
  have hx := B.exec
  have hb := B.bytes
  have hr := B.returns
  have hts := atoms_spec (ws := wsJx4a65c_size_8abf5) B.pre
  have hown : s.vm.findClass RJx4a65c = some m.cls := findClass_of_methodNamed B.named
  have hlocks := B.notSynchronized
  obtain ⟨A, hAe⟩ : ∃ A : Nat → Prop, A = fun _ => False := ⟨_, rfl⟩
  rw [← hAe] at hQ
  have hS : va_S A s.heap s.heap [] := va_S.rf
  have hl := lv_entry [.ref bo] (n := 1) (Nat.le_of_ble_eq_true rfl)
  rw [lg_entry_eq]
  generalize (lg_sl [.ref bo] ++ List.replicate (1 - (lg_sl [.ref bo]).length) Slot.unset).toArray = ls at hl ⊢
  generalize hag : ([.ref bo] : List Value).toArray = args at hts hQ ⊢
  have hl : lv_has ls 1 [(0, .ref bo)] := hl
  refine lv_aload_n hx hb dJx4a65c_size_8abf5_0 rfl (lv_at hl 0 rfl) ?_
  refine va_get (D := (dC, dI)) (ci := 1) (v := .int (nI sz_)) (C := RJx4a65c) (T := TJx4a65c) (N := 3) hx hb hts kc_lsize1_0 hown hK hP 0 rfl rfl 2 (by decide) (hts (.fieldLink RJx4a65c 48 "java/util/ArrayList" "size" "I") kc_lsize1_1) (fun _ h9 => h9) rfl dJx4a65c_size_8abf5_1 ?_
  rw [hQ]
  exact W.iret (v := nI sz_) hx hb hr (fun tQ htQ hWQ => ⟨nI sz_, rfl, rfl, by rw [htQ]⟩) (fun q hq => absurd hq List.not_mem_nil) dJx4a65c_size_8abf5_4

theorem kc_lsize0_0 : ∀ w ∈ wsJx4a65c0, w ∈ wsJx4a65c_size_8abf5 := fun w h => List.mem_cons_of_mem _ (gin_wsJx4a65c0 w h)
theorem kc_lsize0_1 : (.fieldLink RJx4a65c 48 "java/util/ArrayList" "size" "I" : Cond) ∈ wsJx4a65c_size_8abf5 := kc_of 317 rfl rfl rfl
set_option maxHeartbeats 4000000 in
set_option maxRecDepth 100000 in
theorem c_lsize0 (l : Launch) (dC : Nat → ClassId) (dI : Nat → Nat → Nat) (bo : Nat) (bS : Nat) (mdc : Int32) : Met l yJx4a65c_size_8abf5 wsJx4a65c_size_8abf5 ({ frames := 0, cells := 0, slots := 0, locals := 0 } : Room) (va_Pc [.ref bo] (fun U => va_P (dC, dI) vwCl [(zo1iri bo mdc bS 0)] U.heap ∧ va_K (dC, dI) vwCl [] U)) (vp_Si (fun r => r = 0)) 0 0 (fun _ => False) := by
  refine met_ofQ (cc := cJx4a65c_size_8abf5) (maxL := 1) (ret := (some .int)) (by decide) rfl ?_
  intro p e s m args below meth c s₁ Q B hml hv hQ
  obtain ⟨rfl, hP, hK⟩ := hv
  have hx := B.exec
  have hb := B.bytes
  have hr := B.returns
  have hts := atoms_spec (ws := wsJx4a65c_size_8abf5) B.pre
  have hown : s.vm.findClass RJx4a65c = some m.cls := findClass_of_methodNamed B.named
  have hlocks := B.notSynchronized
  obtain ⟨A, hAe⟩ : ∃ A : Nat → Prop, A = fun _ => False := ⟨_, rfl⟩
  rw [← hAe] at hQ
  have hS : va_S A s.heap s.heap [] := va_S.rf
  have hl := lv_entry [.ref bo] (n := 1) (Nat.le_of_ble_eq_true rfl)
  rw [lg_entry_eq]
  generalize (lg_sl [.ref bo] ++ List.replicate (1 - (lg_sl [.ref bo]).length) Slot.unset).toArray = ls at hl ⊢
  generalize hag : ([.ref bo] : List Value).toArray = args at hts hQ ⊢
  have hl : lv_has ls 1 [(0, .ref bo)] := hl
  refine lv_aload_n hx hb dJx4a65c_size_8abf5_0 rfl (lv_at hl 0 rfl) ?_
  refine va_get (D := (dC, dI)) (ci := 1) (v := .int 0) (C := RJx4a65c) (T := TJx4a65c) (N := 3) hx hb hts kc_lsize0_0 hown hK hP 0 rfl rfl 2 (by decide) (hts (.fieldLink RJx4a65c 48 "java/util/ArrayList" "size" "I") kc_lsize0_1) (fun _ h9 => h9) rfl dJx4a65c_size_8abf5_1 ?_
  rw [hQ]
  exact W.iret (v := 0) hx hb hr (fun tQ htQ hWQ => ⟨0, rfl, rfl, by rw [htQ]⟩) (fun q hq => absurd hq List.not_mem_nil) dJx4a65c_size_8abf5_4

theorem kc_lclear0_0 : (.sameField "java/util/ArrayList" "java/util/AbstractList" "modCount" "I" : Cond) ∈ wsJx4a65c_clear_da8c8 := kc_of 320 rfl rfl rfl
theorem kc_lclear0_1 : ∀ w ∈ wsJx4a65c0, w ∈ wsJx4a65c_clear_da8c8 := fun w h => List.mem_cons_of_mem _ (gin_wsJx4a65c0 w h)
theorem kc_lclear0_2 : (.fieldLink RJx4a65c 63 "java/util/ArrayList" "modCount" "I" : Cond) ∈ wsJx4a65c_clear_da8c8 := kc_of 319 rfl rfl rfl
theorem kc_lclear0_3 : (.fieldLink RJx4a65c 9 "java/util/ArrayList" "elementData" "[Ljava/lang/Object;" : Cond) ∈ wsJx4a65c_clear_da8c8 := kc_of 316 rfl rfl rfl
theorem kc_lclear0_4 : (.fieldLink RJx4a65c 48 "java/util/ArrayList" "size" "I" : Cond) ∈ wsJx4a65c_clear_da8c8 := kc_of 317 rfl rfl rfl
set_option maxHeartbeats 4000000 in
set_option maxRecDepth 100000 in
theorem c_lclear0 (l : Launch) (dC : Nat → ClassId) (dI : Nat → Nat → Nat) (bo : Nat) (bS : Nat) (mdc : Int32) (sz : Nat) : Met l yJx4a65c_clear_da8c8 wsJx4a65c_clear_da8c8 ({ frames := 0, cells := 0, slots := 0, locals := 0 } : Room) (va_Pc [.ref bo] (fun U => U.heap.size = sz ∧ va_P (dC, dI) vwCl [(zo1iri bo mdc bS 0)] U.heap ∧ va_K (dC, dI) vwCl [] U ∧ va_D (fun _ => True) [(zo1iri bo mdc bS 0)])) (va_Qv (fun (u : Int32) => match u with | mdc9 => True) (fun (u : Int32) (t : State) => match u with | mdc9 => va_P (dC, dI) vwCl [(zo1iri bo mdc9 bS 0)] t.heap ∧ va_K (dC, dI) vwCl [] t ∧ va_D (va_A [(zo1iri bo mdc bS 0)] sz) [(zo1iri bo mdc9 bS 0)]) (va_A [(zo1iri bo mdc bS 0)] sz)) 0 0 (va_A [(zo1iri bo mdc bS 0)] sz) := by
  refine met_ofQ (cc := cJx4a65c_clear_da8c8) (maxL := 4) (ret := none) (by decide) rfl ?_
  intro p e s m args below meth c s₁ Q B hml hv hQ
  obtain ⟨rfl, hsz, hP, hK, hD0⟩ := hv
  have hx := B.exec
  have hb := B.bytes
  have hr := B.returns
  have hts := atoms_spec (ws := wsJx4a65c_clear_da8c8) B.pre
  have hown : s.vm.findClass RJx4a65c = some m.cls := findClass_of_methodNamed B.named
  have hlocks := B.notSynchronized
  subst hsz
  have hD := hD0.self (sz := s.heap.size)
  generalize hAe : va_A [(zo1iri bo mdc bS 0)] s.heap.size = A at hD hQ ⊢
  have hA : ∀ q : Nat, s.heap.size ≤ q → A q := fun q h => by rw [← hAe]; exact Or.inr h
  have hS : va_S A s.heap s.heap [] := va_S.rf
  have hl := lv_entry [.ref bo] (n := 4) (Nat.le_of_ble_eq_true rfl)
  rw [lg_entry_eq]
  generalize (lg_sl [.ref bo] ++ List.replicate (4 - (lg_sl [.ref bo]).length) Slot.unset).toArray = ls at hl ⊢
  generalize hag : ([.ref bo] : List Value).toArray = args at hts hQ ⊢
  have hl : lv_has ls 4 [(0, .ref bo)] := hl
  obtain ⟨H, hH⟩ : ∃ H : Heap, H = s.heap := ⟨_, rfl⟩
  rw [← hH] at hP
  rw [← hH]
  have hS : va_S A s.heap H [] := by rw [hH]; exact hS
  obtain ⟨locs, hlo⟩ : ∃ L : List Loc, L = [] := ⟨_, rfl⟩
  rw [← hlo] at hS
  rw [← hlo]
  clear hH hlo
  refine lv_aload_n hx hb dJx4a65c_clear_da8c8_0 rfl (lv_at hl 0 rfl) ?_
  refine lv_dup hx hb dJx4a65c_clear_da8c8_1 rfl ?_
  refine va_get (D := (dC, dI)) (ci := 1) (v := .int mdc) (C := RJx4a65c) (T := TJx4a65c) (N := 3) hx hb hts kc_lclear0_1 hown hK hP 0 rfl rfl 0 (by decide) (hts (.fieldLink RJx4a65c 63 "java/util/ArrayList" "modCount" "I") kc_lclear0_2) (fun x h => u_same (hts (.sameField "java/util/ArrayList" "java/util/AbstractList" "modCount" "I") kc_lclear0_0) x h) rfl dJx4a65c_clear_da8c8_2 ?_
  refine lv_iconst (v := 1) hx hb dJx4a65c_clear_da8c8_5 (by decide) ?_
  refine lv_iadd hx hb dJx4a65c_clear_da8c8_6 ?_
  refine va_put (D := (dC, dI)) (ci := 1) (v := .int (mdc + 1)) (ty := .int) (C := RJx4a65c) (T := TJx4a65c) (N := 3) hx hb hts kc_lclear0_1 tyJx4a65c tyJx4a65c_ok nmJx4a65c hown hK hP hD hS 0 rfl rfl 0 (by decide) (hts (.fieldLink RJx4a65c 63 "java/util/ArrayList" "modCount" "I") kc_lclear0_2) (fun x h => u_same (hts (.sameField "java/util/ArrayList" "java/util/AbstractList" "modCount" "I") kc_lclear0_0) x h) rfl (by decide +kernel) rfl rfl (Nat.le_of_ble_eq_true rfl) dJx4a65c_clear_da8c8_7 (fun H locs hP hD hS => ?_)
  have hP : va_P (dC, dI) vwCl [(zo1iri bo (mdc + 1) bS 0)] H := hP
  have hD : va_D A [(zo1iri bo (mdc + 1) bS 0)] := hD
  refine lv_aload_n hx hb dJx4a65c_clear_da8c8_10 rfl (lv_at hl 0 rfl) ?_
  refine va_get (D := (dC, dI)) (ci := 1) (v := .ref bS) (C := RJx4a65c) (T := TJx4a65c) (N := 3) hx hb hts kc_lclear0_1 hown hK hP 0 rfl rfl 1 (by decide) (hts (.fieldLink RJx4a65c 9 "java/util/ArrayList" "elementData" "[Ljava/lang/Object;") kc_lclear0_3) (fun _ h9 => h9) rfl dJx4a65c_clear_da8c8_11 ?_
  refine lv_astore_n (lv' := [(1, .ref bS), (0, .ref bo)]) hx hb dJx4a65c_clear_da8c8_14 rfl hl (by decide) rfl (fun ls hl => ?_)
  refine lv_aload_n hx hb dJx4a65c_clear_da8c8_15 rfl (lv_at hl 1 rfl) ?_
  refine va_get (D := (dC, dI)) (ci := 1) (v := .int 0) (C := RJx4a65c) (T := TJx4a65c) (N := 3) hx hb hts kc_lclear0_1 hown hK hP 0 rfl rfl 2 (by decide) (hts (.fieldLink RJx4a65c 48 "java/util/ArrayList" "size" "I") kc_lclear0_4) (fun _ h9 => h9) rfl dJx4a65c_clear_da8c8_16 ?_
  refine lv_istore_n (lv' := [(2, .int 0), (1, .ref bS), (0, .ref bo)]) hx hb dJx4a65c_clear_da8c8_19 rfl hl (by decide) rfl (fun ls hl => ?_)
  refine lv_aload_n hx hb dJx4a65c_clear_da8c8_20 rfl (lv_at hl 2 rfl) ?_
  refine lv_iconst (v := 0) hx hb dJx4a65c_clear_da8c8_21 (by decide) ?_
  refine lv_dup_x1 hx hb dJx4a65c_clear_da8c8_22 rfl rfl ?_
  refine va_put (D := (dC, dI)) (ci := 1) (v := .int 0) (ty := .int) (C := RJx4a65c) (T := TJx4a65c) (N := 3) hx hb hts kc_lclear0_1 tyJx4a65c tyJx4a65c_ok nmJx4a65c hown hK hP hD hS 0 rfl rfl 2 (by decide) (hts (.fieldLink RJx4a65c 48 "java/util/ArrayList" "size" "I") kc_lclear0_4) (fun _ h9 => h9) rfl (by decide +kernel) rfl rfl (Nat.le_of_ble_eq_true rfl) dJx4a65c_clear_da8c8_23 (fun H locs hP hD hS => ?_)
  have hP : va_P (dC, dI) vwCl [(zo1iri bo (mdc + 1) bS 0)] H := hP
  have hD : va_D A [(zo1iri bo (mdc + 1) bS 0)] := hD
  refine lv_istore_n (lv' := [(3, .int 0), (2, .int 0), (1, .ref bS), (0, .ref bo)]) hx hb dJx4a65c_clear_da8c8_26 rfl hl (by decide) rfl (fun ls hl => ?_)
  refine lv_iload_n hx hb dJx4a65c_clear_da8c8_27 rfl (lv_at hl 0 rfl) ?_
  refine lv_iload_n hx hb dJx4a65c_clear_da8c8_28 rfl (lv_at hl 1 rfl) ?_
  refine lv_icmp_ge (tgt := 42) hx hb dJx4a65c_clear_da8c8_29 (by decide) (fun _ => ?_) (fun c_1 => absurd c_1 (by decide))
  rw [hQ]
  have hP9 := hP.sub (ws' := [(zo1iri bo (mdc + 1) bS 0)]) [0] rfl
  have hD9 := hD.sub (ws' := [(zo1iri bo (mdc + 1) bS 0)]) [0] (by decide) rfl
  have hK9 := hK.sub (tys' := []) [] rfl
  exact W.vret hx hb hr (fun tQ htQ hWQ => ⟨⟨(mdc + 1), rfl, trivial, by rw [htQ]; exact hP9, va_K.moved hWQ.alike hK9, hD9⟩, hS.F htQ⟩) hS.2.2 dJx4a65c_clear_da8c8_42

theorem kc_lclear1_0 : (.sameField "java/util/ArrayList" "java/util/AbstractList" "modCount" "I" : Cond) ∈ wsJx4a65c_clear_da8c8 := kc_of 320 rfl rfl rfl
theorem kc_lclear1_1 : ∀ w ∈ wsJx4a65c0, w ∈ wsJx4a65c_clear_da8c8 := fun w h => List.mem_cons_of_mem _ (gin_wsJx4a65c0 w h)
theorem kc_lclear1_2 : (.fieldLink RJx4a65c 63 "java/util/ArrayList" "modCount" "I" : Cond) ∈ wsJx4a65c_clear_da8c8 := kc_of 319 rfl rfl rfl
theorem kc_lclear1_3 : (.fieldLink RJx4a65c 9 "java/util/ArrayList" "elementData" "[Ljava/lang/Object;" : Cond) ∈ wsJx4a65c_clear_da8c8 := kc_of 316 rfl rfl rfl
theorem kc_lclear1_4 : (.fieldLink RJx4a65c 48 "java/util/ArrayList" "size" "I" : Cond) ∈ wsJx4a65c_clear_da8c8 := kc_of 317 rfl rfl rfl
set_option maxHeartbeats 4000000 in
set_option maxRecDepth 100000 in
theorem c_lclear1 (l : Launch) (dC : Nat → ClassId) (dI : Nat → Nat → Nat) (bo : Nat) (aEl : Nat) (cEl : ClassId) (fEl : Nat → Option Nat) (sz_ : Nat) (mdc : Int32) (sz : Nat) (hsz : sz_ ≤ 10) : Met l yJx4a65c_clear_da8c8 wsJx4a65c_clear_da8c8 ({ frames := 0, cells := 0, slots := 0, locals := 0 } : Room) (va_Pc [.ref bo] (fun U => U.heap.size = sz ∧ va_P (dC, dI) vwCl [(zo1iri bo mdc aEl (nI sz_)), (zaR aEl cEl 10 fEl)] U.heap ∧ va_K (dC, dI) vwCl [(cEl, .object "java/lang/Object")] U ∧ va_D (fun _ => True) [(zo1iri bo mdc aEl (nI sz_)), (zaR aEl cEl 10 fEl)])) (va_Qv (fun (u : (Int32) × (Nat) × (Nat → Option Nat)) => match u with | (mdc9, sz_9, fEl9) => sz_9 = 0) (fun (u : (Int32) × (Nat) × (Nat → Option Nat)) (t : State) => match u with | (mdc9, sz_9, fEl9) => va_P (dC, dI) vwCl [(zo1iri bo mdc9 aEl (nI sz_9)), (zaR aEl cEl 10 fEl9)] t.heap ∧ va_K (dC, dI) vwCl [(cEl, .object "java/lang/Object")] t ∧ va_D (va_A [(zo1iri bo mdc aEl (nI sz_)), (zaR aEl cEl 10 fEl)] sz) [(zo1iri bo mdc9 aEl (nI sz_9)), (zaR aEl cEl 10 fEl9)]) (va_A [(zo1iri bo mdc aEl (nI sz_)), (zaR aEl cEl 10 fEl)] sz)) 0 0 (va_A [(zo1iri bo mdc aEl (nI sz_)), (zaR aEl cEl 10 fEl)] sz) := by
  refine met_ofQ (cc := cJx4a65c_clear_da8c8) (maxL := 4) (ret := none) (by decide) rfl ?_
  intro p e s m args below meth c s₁ Q B hml hv hQ
  obtain ⟨rfl, hsz, hP, hK, hD0⟩ := hv
  have hx := B.exec
  have hb := B.bytes
  have hr := B.returns
  have hts := atoms_spec (ws := wsJx4a65c_clear_da8c8) B.pre
  have hown : s.vm.findClass RJx4a65c = some m.cls := findClass_of_methodNamed B.named
  have hlocks := B.notSynchronized
  subst hsz
  have hD := hD0.self (sz := s.heap.size)
  generalize hAe : va_A [(zo1iri bo mdc aEl (nI sz_)), (zaR aEl cEl 10 fEl)] s.heap.size = A at hD hQ ⊢
  have hA : ∀ q : Nat, s.heap.size ≤ q → A q := fun q h => by rw [← hAe]; exact Or.inr h
  have hS : va_S A s.heap s.heap [] := va_S.rf
  have hl := lv_entry [.ref bo] (n := 4) (Nat.le_of_ble_eq_true rfl)
  rw [lg_entry_eq]
  generalize (lg_sl [.ref bo] ++ List.replicate (4 - (lg_sl [.ref bo]).length) Slot.unset).toArray = ls at hl ⊢
  generalize hag : ([.ref bo] : List Value).toArray = args at hts hQ ⊢
  have hl : lv_has ls 4 [(0, .ref bo)] := hl
  obtain ⟨H, hH⟩ : ∃ H : Heap, H = s.heap := ⟨_, rfl⟩
  rw [← hH] at hP
  rw [← hH]
  have hS : va_S A s.heap H [] := by rw [hH]; exact hS
  obtain ⟨locs, hlo⟩ : ∃ L : List Loc, L = [] := ⟨_, rfl⟩
  rw [← hlo] at hS
  rw [← hlo]
  clear hH hlo
  refine lv_aload_n hx hb dJx4a65c_clear_da8c8_0 rfl (lv_at hl 0 rfl) ?_
  refine lv_dup hx hb dJx4a65c_clear_da8c8_1 rfl ?_
  refine va_get (D := (dC, dI)) (ci := 1) (v := .int mdc) (C := RJx4a65c) (T := TJx4a65c) (N := 3) hx hb hts kc_lclear1_1 hown hK hP 0 rfl rfl 0 (by decide) (hts (.fieldLink RJx4a65c 63 "java/util/ArrayList" "modCount" "I") kc_lclear1_2) (fun x h => u_same (hts (.sameField "java/util/ArrayList" "java/util/AbstractList" "modCount" "I") kc_lclear1_0) x h) rfl dJx4a65c_clear_da8c8_2 ?_
  refine lv_iconst (v := 1) hx hb dJx4a65c_clear_da8c8_5 (by decide) ?_
  refine lv_iadd hx hb dJx4a65c_clear_da8c8_6 ?_
  refine va_put (D := (dC, dI)) (ci := 1) (v := .int (mdc + 1)) (ty := .int) (C := RJx4a65c) (T := TJx4a65c) (N := 3) hx hb hts kc_lclear1_1 tyJx4a65c tyJx4a65c_ok nmJx4a65c hown hK hP hD hS 0 rfl rfl 0 (by decide) (hts (.fieldLink RJx4a65c 63 "java/util/ArrayList" "modCount" "I") kc_lclear1_2) (fun x h => u_same (hts (.sameField "java/util/ArrayList" "java/util/AbstractList" "modCount" "I") kc_lclear1_0) x h) rfl (by decide +kernel) rfl rfl (Nat.le_of_ble_eq_true rfl) dJx4a65c_clear_da8c8_7 (fun H locs hP hD hS => ?_)
  have hP : va_P (dC, dI) vwCl [(zo1iri bo (mdc + 1) aEl (nI sz_)), (zaR aEl cEl 10 fEl)] H := hP
  have hD : va_D A [(zo1iri bo (mdc + 1) aEl (nI sz_)), (zaR aEl cEl 10 fEl)] := hD
  refine lv_aload_n hx hb dJx4a65c_clear_da8c8_10 rfl (lv_at hl 0 rfl) ?_
  refine va_get (D := (dC, dI)) (ci := 1) (v := .ref aEl) (C := RJx4a65c) (T := TJx4a65c) (N := 3) hx hb hts kc_lclear1_1 hown hK hP 0 rfl rfl 1 (by decide) (hts (.fieldLink RJx4a65c 9 "java/util/ArrayList" "elementData" "[Ljava/lang/Object;") kc_lclear1_3) (fun _ h9 => h9) rfl dJx4a65c_clear_da8c8_11 ?_
  refine lv_astore_n (lv' := [(1, .ref aEl), (0, .ref bo)]) hx hb dJx4a65c_clear_da8c8_14 rfl hl (by decide) rfl (fun ls hl => ?_)
  refine lv_aload_n hx hb dJx4a65c_clear_da8c8_15 rfl (lv_at hl 1 rfl) ?_
  refine va_get (D := (dC, dI)) (ci := 1) (v := .int (nI sz_)) (C := RJx4a65c) (T := TJx4a65c) (N := 3) hx hb hts kc_lclear1_1 hown hK hP 0 rfl rfl 2 (by decide) (hts (.fieldLink RJx4a65c 48 "java/util/ArrayList" "size" "I") kc_lclear1_4) (fun _ h9 => h9) rfl dJx4a65c_clear_da8c8_16 ?_
  refine lv_istore_n (lv' := [(2, .int (nI sz_)), (1, .ref aEl), (0, .ref bo)]) hx hb dJx4a65c_clear_da8c8_19 rfl hl (by decide) rfl (fun ls hl => ?_)
  refine lv_aload_n hx hb dJx4a65c_clear_da8c8_20 rfl (lv_at hl 2 rfl) ?_
  refine lv_iconst (v := 0) hx hb dJx4a65c_clear_da8c8_21 (by decide) ?_
  refine lv_dup_x1 hx hb dJx4a65c_clear_da8c8_22 rfl rfl ?_
  refine va_put (D := (dC, dI)) (ci := 1) (v := .int 0) (ty := .int) (C := RJx4a65c) (T := TJx4a65c) (N := 3) hx hb hts kc_lclear1_1 tyJx4a65c tyJx4a65c_ok nmJx4a65c hown hK hP hD hS 0 rfl rfl 2 (by decide) (hts (.fieldLink RJx4a65c 48 "java/util/ArrayList" "size" "I") kc_lclear1_4) (fun _ h9 => h9) rfl (by decide +kernel) rfl rfl (Nat.le_of_ble_eq_true rfl) dJx4a65c_clear_da8c8_23 (fun H locs hP hD hS => ?_)
  have hP : va_P (dC, dI) vwCl [(zo1iri bo (mdc + 1) aEl 0), (zaR aEl cEl 10 fEl)] H := hP
  have hD : va_D A [(zo1iri bo (mdc + 1) aEl 0), (zaR aEl cEl 10 fEl)] := hD
  refine lv_istore_n (lv' := [(3, .int 0), (2, .int (nI sz_)), (1, .ref aEl), (0, .ref bo)]) hx hb dJx4a65c_clear_da8c8_26 rfl hl (by decide) rfl (fun ls hl => ?_)
  have L27 : ∀ (nF : Nat) (i : Nat) (f2 : Nat → Option Nat), sz_ - i < nF → (i ≤ sz_) → ∀ (H : Heap) (locs : List Loc), va_K (dC, dI) vwCl [(cEl, .object "java/lang/Object")] s → va_P (dC, dI) vwCl [(zo1iri bo (mdc + 1) aEl 0), (zaR aEl cEl 10 f2)] H → va_D A [(zo1iri bo (mdc + 1) aEl 0), (zaR aEl cEl 10 f2)] → va_S A s.heap H locs → ∀ (ls : Array Slot), lv_has ls 4 [(1, .ref aEl), (2, .int (nI sz_)), (3, .int (nI i))] → W p l e ({ frames := 0, cells := 0, slots := 0, locals := 0 } : Room) s m args below meth c H locs 0 0 Q (F0 m 27 ls []) := by
    intro nF
    induction nF with
    | zero => intro i f2 hm; exact absurd hm (Nat.not_lt_zero _)
    | succ nF ih27 =>
      intro i f2 hm hi H locs hK hP hD hS ls hl
      refine lv_iload_n hx hb dJx4a65c_clear_da8c8_27 rfl (lv_at hl 2 rfl) ?_
      refine lv_iload_n hx hb dJx4a65c_clear_da8c8_28 rfl (lv_at hl 1 rfl) ?_
      refine lv_icmp_ge (tgt := 42) hx hb dJx4a65c_clear_da8c8_29 (by decide) (fun c_1 => ?_) (fun c_1 => ?_)
      · skip
        have c_1 : sz_ ≤ i := (nI_leI (a := sz_) (b := i) (by omega) (by omega)).mp c_1
        rw [hQ]
        have hP9 := hP.sub (ws' := [(zo1iri bo (mdc + 1) aEl 0), (zaR aEl cEl 10 f2)]) [0, 1] rfl
        have hD9 := hD.sub (ws' := [(zo1iri bo (mdc + 1) aEl 0), (zaR aEl cEl 10 f2)]) [0, 1] (by decide) rfl
        have hK9 := hK.sub (tys' := [(cEl, .object "java/lang/Object")]) [0] rfl
        exact W.vret hx hb hr (fun tQ htQ hWQ => ⟨⟨((mdc + 1), 0, f2), rfl, rfl, by rw [htQ]; exact hP9, va_K.moved hWQ.alike hK9, hD9⟩, hS.F htQ⟩) hS.2.2 dJx4a65c_clear_da8c8_42
      · skip
        have c_1 : ¬ sz_ ≤ i := fun q => c_1 ((nI_leI (a := sz_) (b := i) (by omega) (by omega)).mpr q)
        refine lv_aload_n hx hb dJx4a65c_clear_da8c8_32 rfl (lv_at hl 0 rfl) ?_
        refine lv_iload_n hx hb dJx4a65c_clear_da8c8_33 rfl (lv_at hl 2 rfl) ?_
        refine lv_null hx hb dJx4a65c_clear_da8c8_34 ?_
        refine va_astqN hx hb hK hP hD hS 1 0 rfl rfl (vp_in_nI (n := i) (N := 10) (by omega) (by omega)) dJx4a65c_clear_da8c8_35 (fun H locs hP hD hS => ?_)
        rw [nI_clamp (n := i) (by omega)] at hP hD
        have hP : va_P (dC, dI) vwCl [(zo1iri bo (mdc + 1) aEl 0), (zaR aEl cEl 10 (va_up f2 i none))] H := hP
        have hD : va_D A [(zo1iri bo (mdc + 1) aEl 0), (zaR aEl cEl 10 (va_up f2 i none))] := hD
        refine lv_iinc (v := nI (i + 1)) (lv' := [(3, .int (nI (i + 1))), (1, .ref aEl), (2, .int (nI sz_))]) hx hb dJx4a65c_clear_da8c8_36 hl (k := 2) rfl (nI_add i 1) (by decide) rfl (fun ls hl => ?_)
        refine lv_goto (tgt := 27) hx hb dJx4a65c_clear_da8c8_39 (by decide) ?_
        exact ih27 (i + 1) _ (by omega) (by omega) _ _ (hK.sub [0] rfl) (hP.sub [0, 1] rfl) (hD.sub [0, 1] (by decide) rfl) hS ls (lv_sub hl [1, 2, 0] rfl)
  exact L27 _ (0) _ (Nat.lt_succ_self _) (by omega) _ _ (hK.sub [0] rfl) (hP.sub [0, 1] rfl) (hD.sub [0, 1] (by decide) rfl) hS ls (lv_sub hl [2, 1, 0] rfl)

theorem kc_ladd1_0 : ∀ w ∈ wsJx4a65c0, w ∈ wsJx4a65c_add_72be8 := fun w h => List.mem_cons_of_mem _ (gin_wsJx4a65c0 w h)
theorem kc_ladd1_1 : (.fieldLink RJx4a65c 48 "java/util/ArrayList" "size" "I" : Cond) ∈ wsJx4a65c_add_72be8 := kc_of 317 rfl rfl rfl
set_option maxHeartbeats 4000000 in
set_option maxRecDepth 100000 in
theorem c_ladd1 (l : Launch) (dC : Nat → ClassId) (dI : Nat → Nat → Nat) (ad : Nat → Nat) (cB bS : Nat) (bo : Nat) (aEl : Nat) (k : Nat) (cEl : ClassId) (fEl : Nat → Option Nat) (b0 : Nat) (sz_ : Nat) (mdc : Int32) (tl : List Nat) (b0 : Nat) (sz : Nat) (hsz : sz_ < 10) (hkb : k = b0 + 128 ∧ b0 < 100) (zL : okL ad fEl sz_ tl) : Met l yJx4a65c_add_72be8 wsJx4a65c_add_72be8 ({ frames := 0, cells := 0, slots := 0, locals := 0 } : Room) (va_Pc [.ref bo, .ref (ad k), .ref aEl, .int (nI sz_)] (fun U => U.heap.size = sz ∧ va_P (dC, dI) vwCl [(zo1iri bo mdc aEl (nI sz_)), (zaR aEl cEl 10 fEl)] U.heap ∧ va_K (dC, dI) vwCl [(cEl, .object "java/lang/Object")] U ∧ va_D (fun _ => True) [(zo1iri bo mdc aEl (nI sz_)), (zaR aEl cEl 10 fEl)] ∧ Gi ad cB bS (va_A [(zo1iri bo mdc aEl (nI sz_)), (zaR aEl cEl 10 fEl)] sz) U)) (va_Qv (fun (u : (Nat) × (Nat → Option Nat)) => match u with | (sz_9, fEl9) => sz_9 = sz_ + 1 ∧ okL ad fEl9 (sz_ + 1) (tl ++ [b0])) (fun (u : (Nat) × (Nat → Option Nat)) (t : State) => match u with | (sz_9, fEl9) => va_P (dC, dI) vwCl [(zo1iri bo mdc aEl (nI sz_9)), (zaR aEl cEl 10 fEl9)] t.heap ∧ va_K (dC, dI) vwCl [(cEl, .object "java/lang/Object")] t ∧ va_D (va_A [(zo1iri bo mdc aEl (nI sz_)), (zaR aEl cEl 10 fEl)] sz) [(zo1iri bo mdc aEl (nI sz_9)), (zaR aEl cEl 10 fEl9)]) (va_A [(zo1iri bo mdc aEl (nI sz_)), (zaR aEl cEl 10 fEl)] sz)) 0 0 (va_A [(zo1iri bo mdc aEl (nI sz_)), (zaR aEl cEl 10 fEl)] sz) := by
  refine met_ofQ (cc := cJx4a65c_add_72be8) (maxL := 4) (ret := none) (by decide) rfl ?_
  intro p e s m args below meth c s₁ Q B hml hv hQ
  obtain ⟨rfl, hsz, hP, hK, hD0, hI_⟩ := hv
  have hx := B.exec
  have hb := B.bytes
  have hr := B.returns
  have hts := atoms_spec (ws := wsJx4a65c_add_72be8) B.pre
  have hown : s.vm.findClass RJx4a65c = some m.cls := findClass_of_methodNamed B.named
  have hlocks := B.notSynchronized
  subst hsz
  have hD := hD0.self (sz := s.heap.size)
  generalize hAe : va_A [(zo1iri bo mdc aEl (nI sz_)), (zaR aEl cEl 10 fEl)] s.heap.size = A at hD hQ hI_ ⊢
  have hA : ∀ q : Nat, s.heap.size ≤ q → A q := fun q h => by rw [← hAe]; exact Or.inr h
  have hS : va_S A s.heap s.heap [] := va_S.rf
  have hl := lv_entry [.ref bo, .ref (ad k), .ref aEl, .int (nI sz_)] (n := 4) (Nat.le_of_ble_eq_true rfl)
  rw [lg_entry_eq]
  generalize (lg_sl [.ref bo, .ref (ad k), .ref aEl, .int (nI sz_)] ++ List.replicate (4 - (lg_sl [.ref bo, .ref (ad k), .ref aEl, .int (nI sz_)]).length) Slot.unset).toArray = ls at hl ⊢
  generalize hag : ([.ref bo, .ref (ad k), .ref aEl, .int (nI sz_)] : List Value).toArray = args at hts hQ ⊢
  have hl : lv_has ls 4 [(0, .ref bo), (1, .ref (ad k)), (2, .ref aEl), (3, .int (nI sz_))] := hl
  obtain ⟨H, hH⟩ : ∃ H : Heap, H = s.heap := ⟨_, rfl⟩
  rw [← hH] at hP
  rw [← hH]
  have hS : va_S A s.heap H [] := by rw [hH]; exact hS
  obtain ⟨locs, hlo⟩ : ∃ L : List Loc, L = [] := ⟨_, rfl⟩
  rw [← hlo] at hS
  rw [← hlo]
  clear hH hlo
  refine lv_iload_n hx hb dJx4a65c_add_72be8_0 rfl (lv_at hl 3 rfl) ?_
  refine lv_aload_n hx hb dJx4a65c_add_72be8_1 rfl (lv_at hl 2 rfl) ?_
  refine va_alen (v := 10) hx hb hK hP 1 0 rfl rfl rfl dJx4a65c_add_72be8_2 ?_
  refine lv_icmp_ne (tgt := 11) hx hb dJx4a65c_add_72be8_3 (by decide) (fun c_1 => ?_) (fun c_1 => ?_)
  · skip
    have c_1 : ¬ sz_ = 10 := fun q => c_1 ((nI_eq (a := sz_) (b := 10) (by omega) (by omega)).mpr q)
    refine lv_aload_n hx hb dJx4a65c_add_72be8_11 rfl (lv_at hl 2 rfl) ?_
    refine lv_iload_n hx hb dJx4a65c_add_72be8_12 rfl (lv_at hl 3 rfl) ?_
    refine lv_aload_n hx hb dJx4a65c_add_72be8_13 rfl (lv_at hl 1 rfl) ?_
    refine vb_astq (C := "java/lang/Integer") (v := (ad k)) hx hb hK hP hD hS 1 0 rfl rfl (va_Orecv (hI_.1.1 k (by omega)) hS) (fun comp c0 h1 h2 => vb_asgC hI_.2.2.2.2.1 comp c0 h1 h2) (vp_in_nI (n := sz_) (N := 10) (by omega) (by omega)) dJx4a65c_add_72be8_14 (fun H locs hP hD hS => ?_)
    rw [nI_clamp (n := sz_) (by omega)] at hP hD
    have hP : va_P (dC, dI) vwCl [(zo1iri bo mdc aEl (nI sz_)), (zaR aEl cEl 10 (va_up fEl sz_ (some (ad k))))] H := hP
    have hD : va_D A [(zo1iri bo mdc aEl (nI sz_)), (zaR aEl cEl 10 (va_up fEl sz_ (some (ad k))))] := hD
    refine lv_aload_n hx hb dJx4a65c_add_72be8_15 rfl (lv_at hl 0 rfl) ?_
    refine lv_iload_n hx hb dJx4a65c_add_72be8_16 rfl (lv_at hl 3 rfl) ?_
    refine lv_iconst (v := 1) hx hb dJx4a65c_add_72be8_17 (by decide) ?_
    refine lv_iadd hx hb dJx4a65c_add_72be8_18 ?_
    refine qi_as (y := nI (sz_ + 1)) (nI_add sz_ 1) ?_
    refine va_put (D := (dC, dI)) (ci := 1) (v := .int (nI (sz_ + 1))) (ty := .int) (C := RJx4a65c) (T := TJx4a65c) (N := 3) hx hb hts kc_ladd1_0 tyJx4a65c tyJx4a65c_ok nmJx4a65c hown hK hP hD hS 0 rfl rfl 2 (by decide) (hts (.fieldLink RJx4a65c 48 "java/util/ArrayList" "size" "I") kc_ladd1_1) (fun _ h9 => h9) rfl (by decide +kernel) rfl rfl (Nat.le_of_ble_eq_true rfl) dJx4a65c_add_72be8_19 (fun H locs hP hD hS => ?_)
    have hP : va_P (dC, dI) vwCl [(zo1iri bo mdc aEl (nI (sz_ + 1))), (zaR aEl cEl 10 (va_up fEl sz_ (some (ad k))))] H := hP
    have hD : va_D A [(zo1iri bo mdc aEl (nI (sz_ + 1))), (zaR aEl cEl 10 (va_up fEl sz_ (some (ad k))))] := hD
    rw [hQ]
    have hP9 := hP.sub (ws' := [(zo1iri bo mdc aEl (nI (sz_ + 1))), (zaR aEl cEl 10 (va_up fEl sz_ (some (ad k))))]) [0, 1] rfl
    have hD9 := hD.sub (ws' := [(zo1iri bo mdc aEl (nI (sz_ + 1))), (zaR aEl cEl 10 (va_up fEl sz_ (some (ad k))))]) [0, 1] (by decide) rfl
    have hK9 := hK.sub (tys' := [(cEl, .object "java/lang/Object")]) [0] rfl
    exact W.vret hx hb hr (fun tQ htQ hWQ => ⟨⟨((sz_ + 1), (va_up fEl sz_ (some (ad k)))), rfl, ⟨rfl, okL_add zL hkb⟩, by rw [htQ]; exact hP9, va_K.moved hWQ.alike hK9, hD9⟩, hS.F htQ⟩) hS.2.2 dJx4a65c_add_72be8_22
  · skip
    have c_1 : sz_ = 10 := (nI_eq (a := sz_) (b := 10) (by omega) (by omega)).mp c_1
    exfalso
    omega

theorem kc_grow1_0 : ∀ w ∈ wsJx4a65c0, w ∈ wsJx4a65c_grow_92f84 := fun w h => List.mem_cons_of_mem _ (gin_wsJx4a65c0 w h)
theorem kc_grow1_1 : (.fieldLink RJx4a65c 9 "java/util/ArrayList" "elementData" "[Ljava/lang/Object;" : Cond) ∈ wsJx4a65c_grow_92f84 := kc_of 316 rfl rfl rfl
theorem kc_grow1_2 : (.fieldLink RJx4a65c 39 "java/util/ArrayList" "DEFAULTCAPACITY_EMPTY_ELEMENTDATA" "[Ljava/lang/Object;" : Cond) ∈ wsJx4a65c_grow_92f84 := kc_of 314 rfl rfl rfl
theorem kc_grow1_3 : (.methodLink RJx4a65c 79 Lib.Math.max.name : Cond) ∈ wsJx4a65c_grow_92f84 := kc_of 1011 rfl rfl rfl
theorem kc_grow1_4 : (.static Lib.Math.max.name : Cond) ∈ wsJx4a65c_grow_92f84 := kc_of 426 rfl rfl rfl
theorem kc_grow1_5 : (.initialized "java/lang/Math" : Cond) ∈ wsJx4a65c_grow_92f84 := kc_of 77 rfl rfl rfl
theorem kc_grow1_6 : (.code Lib.Math.max.name Lib.Math.max.code 2 (some .int) : Cond) ∈ wsJx4a65c_grow_92f84 := kc_of 427 rfl rfl rfl
theorem kc_grow1_7 : (.classLink RJx4a65c 7 "java/lang/Object" : Cond) ∈ wsJx4a65c_grow_92f84 := kc_of 1012 rfl rfl rfl
set_option maxHeartbeats 4000000 in
set_option maxRecDepth 100000 in
theorem c_grow1 (l : Launch) (dC : Nat → ClassId) (dI : Nat → Nat → Nat) (ad : Nat → Nat) (cB bS : Nat) (bo : Nat) (mdc : Int32) (sz : Nat) : Met l yJx4a65c_grow_92f84 wsJx4a65c_grow_92f84 ({ frames := 1, cells := 1, slots := 10, locals := 14 } : Room) (va_Pc [.ref bo, .int 1] (fun U => U.heap.size = sz ∧ va_P (dC, dI) vwCl [(zo1iri bo mdc bS 0)] U.heap ∧ va_K (dC, dI) vwCl [] U ∧ va_D (fun _ => True) [(zo1iri bo mdc bS 0)] ∧ Gi ad cB bS (va_A [(zo1iri bo mdc bS 0)] sz) U)) (va_Qq (fun (r : Option Nat) (u : (Nat) × (ClassId)) => match u with | (aEl9, cEl9) => r = some aEl9) (fun (u : (Nat) × (ClassId)) (t : State) => match u with | (aEl9, cEl9) => va_P (dC, dI) vwCl [(zo1iri bo mdc aEl9 0), (zaR aEl9 cEl9 10 (fun _ => none))] t.heap ∧ va_K (dC, dI) vwCl [(cEl9, .object "java/lang/Object")] t ∧ va_D (va_A [(zo1iri bo mdc bS 0)] sz) [(zo1iri bo mdc aEl9 0), (zaR aEl9 cEl9 10 (fun _ => none))]) (va_A [(zo1iri bo mdc bS 0)] sz)) 1 10 (va_A [(zo1iri bo mdc bS 0)] sz) := by
  refine met_ofQ (cc := cJx4a65c_grow_92f84) (maxL := 4) (ret := (some (.array (.object "java/lang/Object")))) (by decide) rfl ?_
  intro p e s m args below meth c s₁ Q B hml hv hQ
  obtain ⟨rfl, hsz, hP, hK, hD0, hI_⟩ := hv
  have hx := B.exec
  have hb := B.bytes
  have hr := B.returns
  have hts := atoms_spec (ws := wsJx4a65c_grow_92f84) B.pre
  have hown : s.vm.findClass RJx4a65c = some m.cls := findClass_of_methodNamed B.named
  have hlocks := B.notSynchronized
  subst hsz
  have hD := hD0.self (sz := s.heap.size)
  generalize hAe : va_A [(zo1iri bo mdc bS 0)] s.heap.size = A at hD hQ hI_ ⊢
  have hA : ∀ q : Nat, s.heap.size ≤ q → A q := fun q h => by rw [← hAe]; exact Or.inr h
  have hS : va_S A s.heap s.heap [] := va_S.rf
  have hl := lv_entry [.ref bo, .int 1] (n := 4) (Nat.le_of_ble_eq_true rfl)
  rw [lg_entry_eq]
  generalize (lg_sl [.ref bo, .int 1] ++ List.replicate (4 - (lg_sl [.ref bo, .int 1]).length) Slot.unset).toArray = ls at hl ⊢
  generalize hag : ([.ref bo, .int 1] : List Value).toArray = args at hts hQ ⊢
  have hl : lv_has ls 4 [(0, .ref bo), (1, .int 1)] := hl
  obtain ⟨H, hH⟩ : ∃ H : Heap, H = s.heap := ⟨_, rfl⟩
  rw [← hH] at hP
  rw [← hH]
  have hS : va_S A s.heap H [] := by rw [hH]; exact hS
  obtain ⟨locs, hlo⟩ : ∃ L : List Loc, L = [] := ⟨_, rfl⟩
  rw [← hlo] at hS
  rw [← hlo]
  clear hH hlo
  refine lv_aload_n hx hb dJx4a65c_grow_92f84_0 rfl (lv_at hl 0 rfl) ?_
  refine va_get (D := (dC, dI)) (ci := 1) (v := .ref bS) (C := RJx4a65c) (T := TJx4a65c) (N := 3) hx hb hts kc_grow1_0 hown hK hP 0 rfl rfl 1 (by decide) (hts (.fieldLink RJx4a65c 9 "java/util/ArrayList" "elementData" "[Ljava/lang/Object;") kc_grow1_1) (fun _ h9 => h9) rfl dJx4a65c_grow_92f84_1 ?_
  refine va_tlen (v := 0) hx hb hI_.2.2.2.2.2.2.1 hS (by decide) dJx4a65c_grow_92f84_4 ?_
  refine lv_istore_n (lv' := [(2, .int 0), (0, .ref bo), (1, .int 1)]) hx hb dJx4a65c_grow_92f84_5 rfl hl (by decide) rfl (fun ls hl => ?_)
  refine lv_iload_n hx hb dJx4a65c_grow_92f84_6 rfl (lv_at hl 0 rfl) ?_
  refine lv_if_gt (tgt := 20) hx hb dJx4a65c_grow_92f84_7 (by decide) (fun c_1 => absurd c_1 (by decide)) (fun _ => ?_)
  refine lv_aload_n hx hb dJx4a65c_grow_92f84_10 rfl (lv_at hl 1 rfl) ?_
  refine va_get (D := (dC, dI)) (ci := 1) (v := .ref bS) (C := RJx4a65c) (T := TJx4a65c) (N := 3) hx hb hts kc_grow1_0 hown hK hP 0 rfl rfl 1 (by decide) (hts (.fieldLink RJx4a65c 9 "java/util/ArrayList" "elementData" "[Ljava/lang/Object;") kc_grow1_1) (fun _ h9 => h9) rfl dJx4a65c_grow_92f84_11 ?_
  refine va_gets (C := "java/util/ArrayList") (n := "DEFAULTCAPACITY_EMPTY_ELEMENTDATA") (d := "[Ljava/lang/Object;") (v := .ref bS) hx hb hI_.2.2.2.2.2.1 hS hown (hts (.fieldLink RJx4a65c 39 "java/util/ArrayList" "DEFAULTCAPACITY_EMPTY_ELEMENTDATA" "[Ljava/lang/Object;") kc_grow1_2) (fun _ h9 => h9) dJx4a65c_grow_92f84_14 ?_
  refine lv_acmp_eq (rx := some bS) (ry := some bS) (tgt := 45) hx hb dJx4a65c_grow_92f84_17 (by decide) (fun _ => ?_) (fun c9 => absurd rfl c9)
  refine lv_aload_n hx hb dJx4a65c_grow_92f84_45 rfl (lv_at hl 1 rfl) ?_
  refine lv_bipush (v := 10) hx hb dJx4a65c_grow_92f84_46 (by decide) ?_
  refine lv_iload_n hx hb dJx4a65c_grow_92f84_48 rfl (lv_at hl 2 rfl) ?_
  refine va_mmax hx hb (by rw [hml]; exact hl.1.symm) hown (hts (.methodLink RJx4a65c 79 Lib.Math.max.name) kc_grow1_3) (hts (.static Lib.Math.max.name) kc_grow1_4) (hts (.initialized "java/lang/Math") kc_grow1_5) (hts (.code Lib.Math.max.name Lib.Math.max.code 2 (some .int)) kc_grow1_6) (Nat.le_of_ble_eq_true rfl) (Nat.le_of_ble_eq_true rfl) (Nat.le_of_ble_eq_true rfl) (Nat.le_of_ble_eq_true rfl) dJx4a65c_grow_92f84_49 ?_
  refine qi_as (y := 10) (by decide) ?_
  refine va_newq (C := "java/lang/Object") (N' := 10) hx hb hown (hts (.classLink RJx4a65c 7 "java/lang/Object") kc_grow1_7) hI_.2.2.2.2.2.2.2 hK hP hD hS hA (by decide) (by decide) (by decide) (Nat.le_of_ble_eq_true rfl) (Nat.le_of_ble_eq_true rfl) dJx4a65c_grow_92f84_52 (fun q_2 ca_3 H hK hP hD hS => ?_)
  have hP : va_P (dC, dI) vwCl [(zo1iri bo mdc bS 0), (zaR q_2 ca_3 10 (fun _ => none))] H := hP
  have hD : va_D A [(zo1iri bo mdc bS 0), (zaR q_2 ca_3 10 (fun _ => none))] := hD
  have hK : va_K (dC, dI) vwCl [(ca_3, .object "java/lang/Object")] s := hK
  refine W.widen (k := 1) (n := 10) (by omega) (by omega) ?_
  refine lv_dup_x1 hx hb dJx4a65c_grow_92f84_55 rfl rfl ?_
  refine va_put (D := (dC, dI)) (ci := 1) (v := .ref q_2) (ty := .array (.object "java/lang/Object")) (C := RJx4a65c) (T := TJx4a65c) (N := 3) hx hb hts kc_grow1_0 tyJx4a65c tyJx4a65c_ok nmJx4a65c hown hK hP hD hS 0 rfl rfl 1 (by decide) (hts (.fieldLink RJx4a65c 9 "java/util/ArrayList" "elementData" "[Ljava/lang/Object;") kc_grow1_1) (fun _ h9 => h9) rfl (by decide +kernel) rfl rfl (Nat.le_of_ble_eq_true rfl) dJx4a65c_grow_92f84_56 (fun H locs hP hD hS => ?_)
  have hP : va_P (dC, dI) vwCl [(zo1iri bo mdc q_2 0), (zaR q_2 ca_3 10 (fun _ => none))] H := hP
  have hD : va_D A [(zo1iri bo mdc q_2 0), (zaR q_2 ca_3 10 (fun _ => none))] := hD
  rw [hQ]
  have hP9 := hP.sub (ws' := [(zo1iri bo mdc q_2 0), (zaR q_2 ca_3 10 (fun _ => none))]) [0, 1] rfl
  have hD9 := hD.sub (ws' := [(zo1iri bo mdc q_2 0), (zaR q_2 ca_3 10 (fun _ => none))]) [0, 1] (by decide) rfl
  have hK9 := hK.sub (tys' := [(ca_3, .object "java/lang/Object")]) [0] rfl
  refine W.widen (k := 1) (n := 10) (by omega) (by omega) ?_
  exact W.aret (v := .ref q_2) hx hb hr (Or.inr ⟨_, rfl⟩) (Or.inr ⟨_, rfl⟩) (fun tQ htQ hWQ => ⟨⟨some q_2, (q_2, ca_3), rfl, rfl, by rw [htQ]; exact hP9, va_K.moved hWQ.alike hK9, hD9⟩, hS.F htQ⟩) hS.2.2 dJx4a65c_grow_92f84_59

theorem kc_grow0_0 : ∀ w ∈ wsJx4a65c0, w ∈ wsJx4a65c_grow_d5877 := fun w h => List.mem_cons_of_mem _ (gin_wsJx4a65c0 w h)
theorem kc_grow0_1 : (.fieldLink RJx4a65c 48 "java/util/ArrayList" "size" "I" : Cond) ∈ wsJx4a65c_grow_d5877 := kc_of 317 rfl rfl rfl
set_option maxHeartbeats 4000000 in
set_option maxRecDepth 100000 in
theorem c_grow0 (l : Launch) (dC : Nat → ClassId) (dI : Nat → Nat → Nat) (ad : Nat → Nat) (cB bS : Nat) (bo : Nat) (mdc : Int32) (sz : Nat) : Met l yJx4a65c_grow_d5877 wsJx4a65c_grow_d5877 ({ frames := 2, cells := 1, slots := 10, locals := 37 } : Room) (va_Pc [.ref bo] (fun U => U.heap.size = sz ∧ va_P (dC, dI) vwCl [(zo1iri bo mdc bS 0)] U.heap ∧ va_K (dC, dI) vwCl [] U ∧ va_D (fun _ => True) [(zo1iri bo mdc bS 0)] ∧ Gi ad cB bS (va_A [(zo1iri bo mdc bS 0)] sz) U)) (va_Qq (fun (r : Option Nat) (u : (Nat) × (ClassId)) => match u with | (aEl9, cEl9) => r = some aEl9) (fun (u : (Nat) × (ClassId)) (t : State) => match u with | (aEl9, cEl9) => va_P (dC, dI) vwCl [(zo1iri bo mdc aEl9 0), (zaR aEl9 cEl9 10 (fun _ => none))] t.heap ∧ va_K (dC, dI) vwCl [(cEl9, .object "java/lang/Object")] t ∧ va_D (va_A [(zo1iri bo mdc bS 0)] sz) [(zo1iri bo mdc aEl9 0), (zaR aEl9 cEl9 10 (fun _ => none))]) (va_A [(zo1iri bo mdc bS 0)] sz)) 1 10 (va_A [(zo1iri bo mdc bS 0)] sz) := by
  refine met_ofQ (cc := cJx4a65c_grow_d5877) (maxL := 1) (ret := (some (.array (.object "java/lang/Object")))) (by decide) rfl ?_
  intro p e s m args below meth c s₁ Q B hml hv hQ
  obtain ⟨rfl, hsz, hP, hK, hD0, hI_⟩ := hv
  have hx := B.exec
  have hb := B.bytes
  have hr := B.returns
  have hts := atoms_spec (ws := wsJx4a65c_grow_d5877) B.pre
  have hown : s.vm.findClass RJx4a65c = some m.cls := findClass_of_methodNamed B.named
  have hlocks := B.notSynchronized
  subst hsz
  have hD := hD0.self (sz := s.heap.size)
  generalize hAe : va_A [(zo1iri bo mdc bS 0)] s.heap.size = A at hD hQ hI_ ⊢
  have hA : ∀ q : Nat, s.heap.size ≤ q → A q := fun q h => by rw [← hAe]; exact Or.inr h
  have hS : va_S A s.heap s.heap [] := va_S.rf
  have hl := lv_entry [.ref bo] (n := 1) (Nat.le_of_ble_eq_true rfl)
  rw [lg_entry_eq]
  generalize (lg_sl [.ref bo] ++ List.replicate (1 - (lg_sl [.ref bo]).length) Slot.unset).toArray = ls at hl ⊢
  generalize hag : ([.ref bo] : List Value).toArray = args at hts hQ ⊢
  have hl : lv_has ls 1 [(0, .ref bo)] := hl
  obtain ⟨H, hH⟩ : ∃ H : Heap, H = s.heap := ⟨_, rfl⟩
  rw [← hH] at hP
  rw [← hH]
  have hS : va_S A s.heap H [] := by rw [hH]; exact hS
  obtain ⟨locs, hlo⟩ : ∃ L : List Loc, L = [] := ⟨_, rfl⟩
  rw [← hlo] at hS
  rw [← hlo]
  clear hH hlo
  refine lv_aload_n hx hb dJx4a65c_grow_d5877_0 rfl (lv_at hl 0 rfl) ?_
  refine lv_aload_n hx hb dJx4a65c_grow_d5877_1 rfl (lv_at hl 0 rfl) ?_
  refine va_get (D := (dC, dI)) (ci := 1) (v := .int 0) (C := RJx4a65c) (T := TJx4a65c) (N := 3) hx hb hts kc_grow0_0 hown hK hP 0 rfl rfl 2 (by decide) (hts (.fieldLink RJx4a65c 48 "java/util/ArrayList" "size" "I") kc_grow0_1) (fun _ h9 => h9) rfl dJx4a65c_grow_d5877_2 ?_
  refine lv_iconst (v := 1) hx hb dJx4a65c_grow_d5877_5 (by decide) ?_
  refine lv_iadd hx hb dJx4a65c_grow_d5877_6 ?_
  refine qi_as (y := 1) (by decide) ?_
  have hPc := hP.sub (ws' := [(zo1iri bo mdc bS 0)]) [0] rfl
  have hDc := hD.sub (ws' := [(zo1iri bo mdc bS 0)]) [0] (by decide) rfl
  have hKc := hK.sub (tys' := []) [] rfl
  have hFc := va_free (wc := [(zo1iri bo mdc bS 0)]) hD hS hA [0] rfl
  refine va_callq (va_runV (As := [.int 1]) (rest := []) ⟨hx, hb, hml, hown, hts⟩ (c_grow1 l dC dI ad cB bS bo mdc H.size) (cwV 1 hts gJx4a65c_grow_d5877_Jx4a65c_grow_92f84 rfl rfl rfl hd_yJx4a65c_grow_92f84 ⟨Nat.le_of_ble_eq_true rfl, Nat.le_of_ble_eq_true rfl⟩) ⟨fun a U g mk q => by obtain ⟨q0, q1, qP, qK, qD, qhI_⟩ := q; exact ⟨q0, mvz g mk a q1, mvP g mk a qP, mvK g mk a qK, qD, qhI_.mv g mk a⟩, va_recv hK hP (ci := 1) (q := (RJx4a65c, TJx4a65c, 3)) (q0 := 0) rfl rfl, fun U hU hW => ⟨rfl, by rw [hU], by rw [hU]; exact hPc, va_K.moved hW.alike hKc, hDc.weaken (fun _ _ _ _ => trivial), hI_.call hS hU hW (fun q h => hFc q h)⟩⟩ rfl rfl hl.1 rfl (lv_room (Nat.le_of_ble_eq_true rfl)) dJx4a65c_grow_d5877_7 ⟨Nat.le_of_ble_eq_true rfl, Nat.le_of_ble_eq_true rfl⟩) hS (fun q _ h => hFc q h) hFc (fun r_1 u tC H1 locs htC hvm hw_2 hB hz1 hk1 hS => ?_)
  obtain ⟨aEl9_3, cEl9_4⟩ := u
  try dsimp only at hw_2 hB
  obtain ⟨hP1, hK1, hD1⟩ := hB
  rw [htC] at hP1
  have hK1 := va_K.moved hvm.symm hK1
  obtain ⟨hP, hD⟩ := va_join (wr := []) (w1 := [(zo1iri bo mdc aEl9_3 0), (zaR aEl9_3 cEl9_4 10 (fun _ => none))]) hP hD [0] [] rfl rfl (by decide) (by decide) hk1 hFc hP1 hD1
  have hK := (hK.sub (tys' := []) [] rfl).app hK1
  generalize H1 = H at hP hS ⊢
  have hP : va_P (dC, dI) vwCl [(zo1iri bo mdc aEl9_3 0), (zaR aEl9_3 cEl9_4 10 (fun _ => none))] H := hP
  have hD : va_D A [(zo1iri bo mdc aEl9_3 0), (zaR aEl9_3 cEl9_4 10 (fun _ => none))] := hD
  have hK : va_K (dC, dI) vwCl [(cEl9_4, .object "java/lang/Object")] s := hK
  refine W.widen (k := 1) (n := 10) (by omega) (by omega) ?_
  refine qq_as (v := .ref aEl9_3) (by rw [hw_2]; rfl) ?_
  rw [hQ]
  have hP9 := hP.sub (ws' := [(zo1iri bo mdc aEl9_3 0), (zaR aEl9_3 cEl9_4 10 (fun _ => none))]) [0, 1] rfl
  have hD9 := hD.sub (ws' := [(zo1iri bo mdc aEl9_3 0), (zaR aEl9_3 cEl9_4 10 (fun _ => none))]) [0, 1] (by decide) rfl
  have hK9 := hK.sub (tys' := [(cEl9_4, .object "java/lang/Object")]) [0] rfl
  refine W.widen (k := 1) (n := 10) (by omega) (by omega) ?_
  exact W.aret (v := .ref aEl9_3) hx hb hr (Or.inr ⟨_, rfl⟩) (Or.inr ⟨_, rfl⟩) (fun tQ htQ hWQ => ⟨⟨some aEl9_3, (aEl9_3, cEl9_4), rfl, rfl, by rw [htQ]; exact hP9, va_K.moved hWQ.alike hK9, hD9⟩, hS.F htQ⟩) hS.2.2 dJx4a65c_grow_d5877_10

theorem kc_ladd0_0 : ∀ w ∈ wsJx4a65c0, w ∈ wsJx4a65c_add_72be8 := fun w h => List.mem_cons_of_mem _ (gin_wsJx4a65c0 w h)
theorem kc_ladd0_1 : (.fieldLink RJx4a65c 48 "java/util/ArrayList" "size" "I" : Cond) ∈ wsJx4a65c_add_72be8 := kc_of 317 rfl rfl rfl
set_option maxHeartbeats 4000000 in
set_option maxRecDepth 100000 in
theorem c_ladd0 (l : Launch) (dC : Nat → ClassId) (dI : Nat → Nat → Nat) (ad : Nat → Nat) (cB bS : Nat) (bo : Nat) (mdc : Int32) (k b0 : Nat) (sz : Nat) (hkb : k = b0 + 128 ∧ b0 < 100) : Met l yJx4a65c_add_72be8 wsJx4a65c_add_72be8 ({ frames := 3, cells := 1, slots := 10, locals := 57 } : Room) (va_Pc [.ref bo, .ref (ad k), .ref bS, .int 0] (fun U => U.heap.size = sz ∧ va_P (dC, dI) vwCl [(zo1iri bo mdc bS 0)] U.heap ∧ va_K (dC, dI) vwCl [] U ∧ va_D (fun _ => True) [(zo1iri bo mdc bS 0)] ∧ Gi ad cB bS (va_A [(zo1iri bo mdc bS 0)] sz) U)) (va_Qv (fun (u : (Int32) × (Nat) × (ClassId) × (Nat) × (Nat → Option Nat)) => match u with | (mdc9, aEl9, cEl9, sz_9, fEl9) => sz_9 = 1 ∧ okL ad fEl9 1 [b0]) (fun (u : (Int32) × (Nat) × (ClassId) × (Nat) × (Nat → Option Nat)) (t : State) => match u with | (mdc9, aEl9, cEl9, sz_9, fEl9) => va_P (dC, dI) vwCl [(zo1iri bo mdc9 aEl9 (nI sz_9)), (zaR aEl9 cEl9 10 fEl9)] t.heap ∧ va_K (dC, dI) vwCl [(cEl9, .object "java/lang/Object")] t ∧ va_D (va_A [(zo1iri bo mdc bS 0)] sz) [(zo1iri bo mdc9 aEl9 (nI sz_9)), (zaR aEl9 cEl9 10 fEl9)]) (va_A [(zo1iri bo mdc bS 0)] sz)) 1 10 (va_A [(zo1iri bo mdc bS 0)] sz) := by
  refine met_ofQ (cc := cJx4a65c_add_72be8) (maxL := 4) (ret := none) (by decide) rfl ?_
  intro p e s m args below meth c s₁ Q B hml hv hQ
  obtain ⟨rfl, hsz, hP, hK, hD0, hI_⟩ := hv
  have hx := B.exec
  have hb := B.bytes
  have hr := B.returns
  have hts := atoms_spec (ws := wsJx4a65c_add_72be8) B.pre
  have hown : s.vm.findClass RJx4a65c = some m.cls := findClass_of_methodNamed B.named
  have hlocks := B.notSynchronized
  subst hsz
  have hD := hD0.self (sz := s.heap.size)
  generalize hAe : va_A [(zo1iri bo mdc bS 0)] s.heap.size = A at hD hQ hI_ ⊢
  have hA : ∀ q : Nat, s.heap.size ≤ q → A q := fun q h => by rw [← hAe]; exact Or.inr h
  have hS : va_S A s.heap s.heap [] := va_S.rf
  have hl := lv_entry [.ref bo, .ref (ad k), .ref bS, .int 0] (n := 4) (Nat.le_of_ble_eq_true rfl)
  rw [lg_entry_eq]
  generalize (lg_sl [.ref bo, .ref (ad k), .ref bS, .int 0] ++ List.replicate (4 - (lg_sl [.ref bo, .ref (ad k), .ref bS, .int 0]).length) Slot.unset).toArray = ls at hl ⊢
  generalize hag : ([.ref bo, .ref (ad k), .ref bS, .int 0] : List Value).toArray = args at hts hQ ⊢
  have hl : lv_has ls 4 [(0, .ref bo), (1, .ref (ad k)), (2, .ref bS), (3, .int 0)] := hl
  obtain ⟨H, hH⟩ : ∃ H : Heap, H = s.heap := ⟨_, rfl⟩
  rw [← hH] at hP
  rw [← hH]
  have hS : va_S A s.heap H [] := by rw [hH]; exact hS
  obtain ⟨locs, hlo⟩ : ∃ L : List Loc, L = [] := ⟨_, rfl⟩
  rw [← hlo] at hS
  rw [← hlo]
  clear hH hlo
  refine lv_iload_n hx hb dJx4a65c_add_72be8_0 rfl (lv_at hl 3 rfl) ?_
  refine lv_aload_n hx hb dJx4a65c_add_72be8_1 rfl (lv_at hl 2 rfl) ?_
  refine va_tlen (v := 0) hx hb hI_.2.2.2.2.2.2.1 hS (by decide) dJx4a65c_add_72be8_2 ?_
  refine lv_icmp_ne (tgt := 11) hx hb dJx4a65c_add_72be8_3 (by decide) (fun c_1 => absurd c_1 (by decide)) (fun _ => ?_)
  refine lv_aload_n hx hb dJx4a65c_add_72be8_6 rfl (lv_at hl 0 rfl) ?_
  have hPc := hP.sub (ws' := [(zo1iri bo mdc bS 0)]) [0] rfl
  have hDc := hD.sub (ws' := [(zo1iri bo mdc bS 0)]) [0] (by decide) rfl
  have hKc := hK.sub (tys' := []) [] rfl
  have hFc := va_free (wc := [(zo1iri bo mdc bS 0)]) hD hS hA [0] rfl
  refine va_callq (va_runV (As := []) (rest := []) ⟨hx, hb, hml, hown, hts⟩ (c_grow0 l dC dI ad cB bS bo mdc H.size) (cwV 0 hts gJx4a65c_add_72be8_Jx4a65c_grow_d5877 rfl rfl rfl hd_yJx4a65c_grow_d5877 ⟨Nat.le_of_ble_eq_true rfl, Nat.le_of_ble_eq_true rfl⟩) ⟨fun a U g mk q => by obtain ⟨q0, q1, qP, qK, qD, qhI_⟩ := q; exact ⟨q0, mvz g mk a q1, mvP g mk a qP, mvK g mk a qK, qD, qhI_.mv g mk a⟩, va_recv hK hP (ci := 1) (q := (RJx4a65c, TJx4a65c, 3)) (q0 := 0) rfl rfl, fun U hU hW => ⟨rfl, by rw [hU], by rw [hU]; exact hPc, va_K.moved hW.alike hKc, hDc.weaken (fun _ _ _ _ => trivial), hI_.call hS hU hW (fun q h => hFc q h)⟩⟩ rfl rfl hl.1 rfl (lv_room (Nat.le_of_ble_eq_true rfl)) dJx4a65c_add_72be8_7 ⟨Nat.le_of_ble_eq_true rfl, Nat.le_of_ble_eq_true rfl⟩) hS (fun q _ h => hFc q h) hFc (fun r_2 u tC H1 locs htC hvm hw_3 hB hz1 hk1 hS => ?_)
  obtain ⟨aEl9_4, cEl9_5⟩ := u
  try dsimp only at hw_3 hB
  obtain ⟨hP1, hK1, hD1⟩ := hB
  rw [htC] at hP1
  have hK1 := va_K.moved hvm.symm hK1
  obtain ⟨hP, hD⟩ := va_join (wr := []) (w1 := [(zo1iri bo mdc aEl9_4 0), (zaR aEl9_4 cEl9_5 10 (fun _ => none))]) hP hD [0] [] rfl rfl (by decide) (by decide) hk1 hFc hP1 hD1
  have hK := (hK.sub (tys' := []) [] rfl).app hK1
  generalize H1 = H at hP hS ⊢
  have hP : va_P (dC, dI) vwCl [(zo1iri bo mdc aEl9_4 0), (zaR aEl9_4 cEl9_5 10 (fun _ => none))] H := hP
  have hD : va_D A [(zo1iri bo mdc aEl9_4 0), (zaR aEl9_4 cEl9_5 10 (fun _ => none))] := hD
  have hK : va_K (dC, dI) vwCl [(cEl9_5, .object "java/lang/Object")] s := hK
  refine W.widen (k := 1) (n := 10) (by omega) (by omega) ?_
  refine qq_as (v := .ref aEl9_4) (by rw [hw_3]; rfl) ?_
  refine lv_astore_n (lv' := [(2, .ref aEl9_4), (0, .ref bo), (1, .ref (ad k)), (3, .int 0)]) hx hb dJx4a65c_add_72be8_10 rfl hl (by decide) rfl (fun ls hl => ?_)
  refine lv_aload_n hx hb dJx4a65c_add_72be8_11 rfl (lv_at hl 0 rfl) ?_
  refine lv_iload_n hx hb dJx4a65c_add_72be8_12 rfl (lv_at hl 3 rfl) ?_
  refine lv_aload_n hx hb dJx4a65c_add_72be8_13 rfl (lv_at hl 2 rfl) ?_
  refine vb_astq (C := "java/lang/Integer") (v := (ad k)) hx hb hK hP hD hS 1 0 rfl rfl (va_Orecv (hI_.1.1 k (by omega)) hS) (fun comp c0 h1 h2 => vb_asgC hI_.2.2.2.2.1 comp c0 h1 h2) (vp_in_nI (n := 0) (N := 10) (by omega) (by omega)) dJx4a65c_add_72be8_14 (fun H locs hP hD hS => ?_)
  have hP : va_P (dC, dI) vwCl [(zo1iri bo mdc aEl9_4 0), (zaR aEl9_4 cEl9_5 10 (va_up (fun _ => none) 0 (some (ad k))))] H := hP
  have hD : va_D A [(zo1iri bo mdc aEl9_4 0), (zaR aEl9_4 cEl9_5 10 (va_up (fun _ => none) 0 (some (ad k))))] := hD
  refine lv_aload_n hx hb dJx4a65c_add_72be8_15 rfl (lv_at hl 1 rfl) ?_
  refine lv_iload_n hx hb dJx4a65c_add_72be8_16 rfl (lv_at hl 3 rfl) ?_
  refine lv_iconst (v := 1) hx hb dJx4a65c_add_72be8_17 (by decide) ?_
  refine lv_iadd hx hb dJx4a65c_add_72be8_18 ?_
  refine qi_as (y := 1) (by decide) ?_
  refine va_put (D := (dC, dI)) (ci := 1) (v := .int 1) (ty := .int) (C := RJx4a65c) (T := TJx4a65c) (N := 3) hx hb hts kc_ladd0_0 tyJx4a65c tyJx4a65c_ok nmJx4a65c hown hK hP hD hS 0 rfl rfl 2 (by decide) (hts (.fieldLink RJx4a65c 48 "java/util/ArrayList" "size" "I") kc_ladd0_1) (fun _ h9 => h9) rfl (by decide +kernel) rfl rfl (Nat.le_of_ble_eq_true rfl) dJx4a65c_add_72be8_19 (fun H locs hP hD hS => ?_)
  have hP : va_P (dC, dI) vwCl [(zo1iri bo mdc aEl9_4 1), (zaR aEl9_4 cEl9_5 10 (va_up (fun _ => none) 0 (some (ad k))))] H := hP
  have hD : va_D A [(zo1iri bo mdc aEl9_4 1), (zaR aEl9_4 cEl9_5 10 (va_up (fun _ => none) 0 (some (ad k))))] := hD
  rw [hQ]
  have hP9 := hP.sub (ws' := [(zo1iri bo mdc aEl9_4 1), (zaR aEl9_4 cEl9_5 10 (va_up (fun _ => none) 0 (some (ad k))))]) [0, 1] rfl
  have hD9 := hD.sub (ws' := [(zo1iri bo mdc aEl9_4 1), (zaR aEl9_4 cEl9_5 10 (va_up (fun _ => none) 0 (some (ad k))))]) [0, 1] (by decide) rfl
  have hK9 := hK.sub (tys' := [(cEl9_5, .object "java/lang/Object")]) [0] rfl
  refine W.widen (k := 1) (n := 10) (by omega) (by omega) ?_
  exact W.vret hx hb hr (fun tQ htQ hWQ => ⟨⟨(mdc, aEl9_4, cEl9_5, 1, (va_up (fun _ => none) 0 (some (ad k)))), rfl, ⟨rfl, okL_add okL_nil hkb⟩, by rw [htQ]; exact hP9, va_K.moved hWQ.alike hK9, hD9⟩, hS.F htQ⟩) hS.2.2 dJx4a65c_add_72be8_22

theorem kc_ladd1b_0 : (.sameField "java/util/ArrayList" "java/util/AbstractList" "modCount" "I" : Cond) ∈ wsJx4a65c_add_9ea2d := kc_of 320 rfl rfl rfl
theorem kc_ladd1b_1 : ∀ w ∈ wsJx4a65c0, w ∈ wsJx4a65c_add_9ea2d := fun w h => List.mem_cons_of_mem _ (gin_wsJx4a65c0 w h)
theorem kc_ladd1b_2 : (.fieldLink RJx4a65c 63 "java/util/ArrayList" "modCount" "I" : Cond) ∈ wsJx4a65c_add_9ea2d := kc_of 319 rfl rfl rfl
theorem kc_ladd1b_3 : (.fieldLink RJx4a65c 9 "java/util/ArrayList" "elementData" "[Ljava/lang/Object;" : Cond) ∈ wsJx4a65c_add_9ea2d := kc_of 316 rfl rfl rfl
theorem kc_ladd1b_4 : (.fieldLink RJx4a65c 48 "java/util/ArrayList" "size" "I" : Cond) ∈ wsJx4a65c_add_9ea2d := kc_of 317 rfl rfl rfl
set_option maxHeartbeats 4000000 in
set_option maxRecDepth 100000 in
theorem c_ladd1b (l : Launch) (dC : Nat → ClassId) (dI : Nat → Nat → Nat) (ad : Nat → Nat) (cB bS : Nat) (bo : Nat) (aEl : Nat) (k : Nat) (cEl : ClassId) (fEl : Nat → Option Nat) (b0 : Nat) (sz_ : Nat) (mdc : Int32) (tl : List Nat) (b0 : Nat) (sz : Nat) (hsz : sz_ < 10) (hkb : k = b0 + 128 ∧ b0 < 100) (zL : okL ad fEl sz_ tl) : Met l yJx4a65c_add_9ea2d wsJx4a65c_add_9ea2d ({ frames := 1, cells := 0, slots := 0, locals := 23 } : Room) (va_Pc [.ref bo, .ref (ad k)] (fun U => U.heap.size = sz ∧ va_P (dC, dI) vwCl [(zo1iri bo mdc aEl (nI sz_)), (zaR aEl cEl 10 fEl)] U.heap ∧ va_K (dC, dI) vwCl [(cEl, .object "java/lang/Object")] U ∧ va_D (fun _ => True) [(zo1iri bo mdc aEl (nI sz_)), (zaR aEl cEl 10 fEl)] ∧ Gi ad cB bS (va_A [(zo1iri bo mdc aEl (nI sz_)), (zaR aEl cEl 10 fEl)] sz) U)) (va_Qi (fun (r : Int32) (u : (Int32) × (Nat) × (Nat → Option Nat)) => match u with | (mdc9, sz_9, fEl9) => sz_9 = sz_ + 1 ∧ okL ad fEl9 (sz_ + 1) (tl ++ [b0])) (fun (u : (Int32) × (Nat) × (Nat → Option Nat)) (t : State) => match u with | (mdc9, sz_9, fEl9) => va_P (dC, dI) vwCl [(zo1iri bo mdc9 aEl (nI sz_9)), (zaR aEl cEl 10 fEl9)] t.heap ∧ va_K (dC, dI) vwCl [(cEl, .object "java/lang/Object")] t ∧ va_D (va_A [(zo1iri bo mdc aEl (nI sz_)), (zaR aEl cEl 10 fEl)] sz) [(zo1iri bo mdc9 aEl (nI sz_9)), (zaR aEl cEl 10 fEl9)]) (va_A [(zo1iri bo mdc aEl (nI sz_)), (zaR aEl cEl 10 fEl)] sz)) 0 0 (va_A [(zo1iri bo mdc aEl (nI sz_)), (zaR aEl cEl 10 fEl)] sz) := by
  refine met_ofQ (cc := cJx4a65c_add_9ea2d) (maxL := 2) (ret := (some .boolean)) (by decide) rfl ?_
  intro p e s m args below meth c s₁ Q B hml hv hQ
  obtain ⟨rfl, hsz, hP, hK, hD0, hI_⟩ := hv
  have hx := B.exec
  have hb := B.bytes
  have hr := B.returns
  have hts := atoms_spec (ws := wsJx4a65c_add_9ea2d) B.pre
  have hown : s.vm.findClass RJx4a65c = some m.cls := findClass_of_methodNamed B.named
  have hlocks := B.notSynchronized
  subst hsz
  have hD := hD0.self (sz := s.heap.size)
  generalize hAe : va_A [(zo1iri bo mdc aEl (nI sz_)), (zaR aEl cEl 10 fEl)] s.heap.size = A at hD hQ hI_ ⊢
  have hA : ∀ q : Nat, s.heap.size ≤ q → A q := fun q h => by rw [← hAe]; exact Or.inr h
  have hS : va_S A s.heap s.heap [] := va_S.rf
  have hl := lv_entry [.ref bo, .ref (ad k)] (n := 2) (Nat.le_of_ble_eq_true rfl)
  rw [lg_entry_eq]
  generalize (lg_sl [.ref bo, .ref (ad k)] ++ List.replicate (2 - (lg_sl [.ref bo, .ref (ad k)]).length) Slot.unset).toArray = ls at hl ⊢
  generalize hag : ([.ref bo, .ref (ad k)] : List Value).toArray = args at hts hQ ⊢
  have hl : lv_has ls 2 [(0, .ref bo), (1, .ref (ad k))] := hl
  obtain ⟨H, hH⟩ : ∃ H : Heap, H = s.heap := ⟨_, rfl⟩
  rw [← hH] at hP
  rw [← hH]
  have hS : va_S A s.heap H [] := by rw [hH]; exact hS
  obtain ⟨locs, hlo⟩ : ∃ L : List Loc, L = [] := ⟨_, rfl⟩
  rw [← hlo] at hS
  rw [← hlo]
  clear hH hlo
  refine lv_aload_n hx hb dJx4a65c_add_9ea2d_0 rfl (lv_at hl 0 rfl) ?_
  refine lv_dup hx hb dJx4a65c_add_9ea2d_1 rfl ?_
  refine va_get (D := (dC, dI)) (ci := 1) (v := .int mdc) (C := RJx4a65c) (T := TJx4a65c) (N := 3) hx hb hts kc_ladd1b_1 hown hK hP 0 rfl rfl 0 (by decide) (hts (.fieldLink RJx4a65c 63 "java/util/ArrayList" "modCount" "I") kc_ladd1b_2) (fun x h => u_same (hts (.sameField "java/util/ArrayList" "java/util/AbstractList" "modCount" "I") kc_ladd1b_0) x h) rfl dJx4a65c_add_9ea2d_2 ?_
  refine lv_iconst (v := 1) hx hb dJx4a65c_add_9ea2d_5 (by decide) ?_
  refine lv_iadd hx hb dJx4a65c_add_9ea2d_6 ?_
  refine va_put (D := (dC, dI)) (ci := 1) (v := .int (mdc + 1)) (ty := .int) (C := RJx4a65c) (T := TJx4a65c) (N := 3) hx hb hts kc_ladd1b_1 tyJx4a65c tyJx4a65c_ok nmJx4a65c hown hK hP hD hS 0 rfl rfl 0 (by decide) (hts (.fieldLink RJx4a65c 63 "java/util/ArrayList" "modCount" "I") kc_ladd1b_2) (fun x h => u_same (hts (.sameField "java/util/ArrayList" "java/util/AbstractList" "modCount" "I") kc_ladd1b_0) x h) rfl (by decide +kernel) rfl rfl (Nat.le_of_ble_eq_true rfl) dJx4a65c_add_9ea2d_7 (fun H locs hP hD hS => ?_)
  have hP : va_P (dC, dI) vwCl [(zo1iri bo (mdc + 1) aEl (nI sz_)), (zaR aEl cEl 10 fEl)] H := hP
  have hD : va_D A [(zo1iri bo (mdc + 1) aEl (nI sz_)), (zaR aEl cEl 10 fEl)] := hD
  refine lv_aload_n hx hb dJx4a65c_add_9ea2d_10 rfl (lv_at hl 0 rfl) ?_
  refine lv_aload_n hx hb dJx4a65c_add_9ea2d_11 rfl (lv_at hl 1 rfl) ?_
  refine lv_aload_n hx hb dJx4a65c_add_9ea2d_12 rfl (lv_at hl 0 rfl) ?_
  refine va_get (D := (dC, dI)) (ci := 1) (v := .ref aEl) (C := RJx4a65c) (T := TJx4a65c) (N := 3) hx hb hts kc_ladd1b_1 hown hK hP 0 rfl rfl 1 (by decide) (hts (.fieldLink RJx4a65c 9 "java/util/ArrayList" "elementData" "[Ljava/lang/Object;") kc_ladd1b_3) (fun _ h9 => h9) rfl dJx4a65c_add_9ea2d_13 ?_
  refine lv_aload_n hx hb dJx4a65c_add_9ea2d_16 rfl (lv_at hl 0 rfl) ?_
  refine va_get (D := (dC, dI)) (ci := 1) (v := .int (nI sz_)) (C := RJx4a65c) (T := TJx4a65c) (N := 3) hx hb hts kc_ladd1b_1 hown hK hP 0 rfl rfl 2 (by decide) (hts (.fieldLink RJx4a65c 48 "java/util/ArrayList" "size" "I") kc_ladd1b_4) (fun _ h9 => h9) rfl dJx4a65c_add_9ea2d_17 ?_
  have hPc := hP.sub (ws' := [(zo1iri bo (mdc + 1) aEl (nI sz_)), (zaR aEl cEl 10 fEl)]) [0, 1] rfl
  have hDc := hD.sub (ws' := [(zo1iri bo (mdc + 1) aEl (nI sz_)), (zaR aEl cEl 10 fEl)]) [0, 1] (by decide) rfl
  have hKc := hK.sub (tys' := [(cEl, .object "java/lang/Object")]) [0] rfl
  have hFc := va_free (wc := [(zo1iri bo (mdc + 1) aEl (nI sz_)), (zaR aEl cEl 10 fEl)]) hD hS hA [0, 1] rfl
  refine va_callv (va_runV (As := [.ref (ad k), .ref aEl, .int (nI sz_)]) (rest := []) ⟨hx, hb, hml, hown, hts⟩ (c_ladd1 l dC dI ad cB bS bo aEl k cEl fEl b0 sz_ (mdc + 1) tl b0 H.size (by omega) (hkb) (zL)) (cwV 3 hts gJx4a65c_add_9ea2d_Jx4a65c_add_72be8 rfl rfl rfl hd_yJx4a65c_add_72be8 ⟨Nat.le_of_ble_eq_true rfl, Nat.le_of_ble_eq_true rfl⟩) ⟨fun a U g mk q => by obtain ⟨q0, q1, qP, qK, qD, qhI_⟩ := q; exact ⟨q0, mvz g mk a q1, mvP g mk a qP, mvK g mk a qK, qD, qhI_.mv g mk a⟩, va_recv hK hP (ci := 1) (q := (RJx4a65c, TJx4a65c, 3)) (q0 := 0) rfl rfl, fun U hU hW => ⟨rfl, by rw [hU], by rw [hU]; exact hPc, va_K.moved hW.alike hKc, hDc.weaken (fun _ _ _ _ => trivial), hI_.call hS hU hW (fun q h => hFc q h)⟩⟩ rfl rfl hl.1 rfl (lv_room (Nat.le_of_ble_eq_true rfl)) dJx4a65c_add_9ea2d_20 ⟨Nat.le_of_ble_eq_true rfl, Nat.le_of_ble_eq_true rfl⟩) hS (fun q _ h => hFc q h) hFc (fun u tC H1 locs htC hvm hw_2 hB hz1 hk1 hS => ?_)
  obtain ⟨sz_9_3, fEl9_4⟩ := u
  try dsimp only at hw_2 hB
  obtain ⟨hP1, hK1, hD1⟩ := hB
  rw [htC] at hP1
  have hK1 := va_K.moved hvm.symm hK1
  obtain ⟨hP, hD⟩ := va_join (wr := []) (w1 := [(zo1iri bo (mdc + 1) aEl (nI sz_9_3)), (zaR aEl cEl 10 fEl9_4)]) hP hD [0, 1] [] rfl rfl (by decide) (by decide) hk1 hFc hP1 hD1
  have hK := (hK.sub (tys' := []) [] rfl).app hK1
  generalize H1 = H at hP hS ⊢
  have hP : va_P (dC, dI) vwCl [(zo1iri bo (mdc + 1) aEl (nI sz_9_3)), (zaR aEl cEl 10 fEl9_4)] H := hP
  have hD : va_D A [(zo1iri bo (mdc + 1) aEl (nI sz_9_3)), (zaR aEl cEl 10 fEl9_4)] := hD
  have hK : va_K (dC, dI) vwCl [(cEl, .object "java/lang/Object")] s := hK
  obtain ⟨e_5, hL_6⟩ := hw_2
  obtain rfl := (e_5).symm
  refine lv_iconst (v := 1) hx hb dJx4a65c_add_9ea2d_23 (by decide) ?_
  rw [hQ]
  have hP9 := hP.sub (ws' := [(zo1iri bo (mdc + 1) aEl (nI (sz_ + 1))), (zaR aEl cEl 10 fEl9_4)]) [0, 1] rfl
  have hD9 := hD.sub (ws' := [(zo1iri bo (mdc + 1) aEl (nI (sz_ + 1))), (zaR aEl cEl 10 fEl9_4)]) [0, 1] (by decide) rfl
  have hK9 := hK.sub (tys' := [(cEl, .object "java/lang/Object")]) [0] rfl
  exact W.zret (v := 1) hx hb hr rfl (fun tQ htQ hWQ => ⟨⟨1, ((mdc + 1), (sz_ + 1), fEl9_4), rfl, ⟨rfl, hL_6⟩, by rw [htQ]; exact hP9, va_K.moved hWQ.alike hK9, hD9⟩, hS.F htQ⟩) hS.2.2 dJx4a65c_add_9ea2d_24

theorem kc_ladd0b_0 : (.sameField "java/util/ArrayList" "java/util/AbstractList" "modCount" "I" : Cond) ∈ wsJx4a65c_add_9ea2d := kc_of 320 rfl rfl rfl
theorem kc_ladd0b_1 : ∀ w ∈ wsJx4a65c0, w ∈ wsJx4a65c_add_9ea2d := fun w h => List.mem_cons_of_mem _ (gin_wsJx4a65c0 w h)
theorem kc_ladd0b_2 : (.fieldLink RJx4a65c 63 "java/util/ArrayList" "modCount" "I" : Cond) ∈ wsJx4a65c_add_9ea2d := kc_of 319 rfl rfl rfl
theorem kc_ladd0b_3 : (.fieldLink RJx4a65c 9 "java/util/ArrayList" "elementData" "[Ljava/lang/Object;" : Cond) ∈ wsJx4a65c_add_9ea2d := kc_of 316 rfl rfl rfl
theorem kc_ladd0b_4 : (.fieldLink RJx4a65c 48 "java/util/ArrayList" "size" "I" : Cond) ∈ wsJx4a65c_add_9ea2d := kc_of 317 rfl rfl rfl
set_option maxHeartbeats 4000000 in
set_option maxRecDepth 100000 in
theorem c_ladd0b (l : Launch) (dC : Nat → ClassId) (dI : Nat → Nat → Nat) (ad : Nat → Nat) (cB bS : Nat) (bo : Nat) (mdc : Int32) (k b0 : Nat) (sz : Nat) (hkb : k = b0 + 128 ∧ b0 < 100) : Met l yJx4a65c_add_9ea2d wsJx4a65c_add_9ea2d ({ frames := 4, cells := 1, slots := 10, locals := 80 } : Room) (va_Pc [.ref bo, .ref (ad k)] (fun U => U.heap.size = sz ∧ va_P (dC, dI) vwCl [(zo1iri bo mdc bS 0)] U.heap ∧ va_K (dC, dI) vwCl [] U ∧ va_D (fun _ => True) [(zo1iri bo mdc bS 0)] ∧ Gi ad cB bS (va_A [(zo1iri bo mdc bS 0)] sz) U)) (va_Qi (fun (r : Int32) (u : (Int32) × (Nat) × (ClassId) × (Nat) × (Nat → Option Nat)) => match u with | (mdc9, aEl9, cEl9, sz_9, fEl9) => sz_9 = 1 ∧ okL ad fEl9 1 [b0]) (fun (u : (Int32) × (Nat) × (ClassId) × (Nat) × (Nat → Option Nat)) (t : State) => match u with | (mdc9, aEl9, cEl9, sz_9, fEl9) => va_P (dC, dI) vwCl [(zo1iri bo mdc9 aEl9 (nI sz_9)), (zaR aEl9 cEl9 10 fEl9)] t.heap ∧ va_K (dC, dI) vwCl [(cEl9, .object "java/lang/Object")] t ∧ va_D (va_A [(zo1iri bo mdc bS 0)] sz) [(zo1iri bo mdc9 aEl9 (nI sz_9)), (zaR aEl9 cEl9 10 fEl9)]) (va_A [(zo1iri bo mdc bS 0)] sz)) 1 10 (va_A [(zo1iri bo mdc bS 0)] sz) := by
  refine met_ofQ (cc := cJx4a65c_add_9ea2d) (maxL := 2) (ret := (some .boolean)) (by decide) rfl ?_
  intro p e s m args below meth c s₁ Q B hml hv hQ
  obtain ⟨rfl, hsz, hP, hK, hD0, hI_⟩ := hv
  have hx := B.exec
  have hb := B.bytes
  have hr := B.returns
  have hts := atoms_spec (ws := wsJx4a65c_add_9ea2d) B.pre
  have hown : s.vm.findClass RJx4a65c = some m.cls := findClass_of_methodNamed B.named
  have hlocks := B.notSynchronized
  subst hsz
  have hD := hD0.self (sz := s.heap.size)
  generalize hAe : va_A [(zo1iri bo mdc bS 0)] s.heap.size = A at hD hQ hI_ ⊢
  have hA : ∀ q : Nat, s.heap.size ≤ q → A q := fun q h => by rw [← hAe]; exact Or.inr h
  have hS : va_S A s.heap s.heap [] := va_S.rf
  have hl := lv_entry [.ref bo, .ref (ad k)] (n := 2) (Nat.le_of_ble_eq_true rfl)
  rw [lg_entry_eq]
  generalize (lg_sl [.ref bo, .ref (ad k)] ++ List.replicate (2 - (lg_sl [.ref bo, .ref (ad k)]).length) Slot.unset).toArray = ls at hl ⊢
  generalize hag : ([.ref bo, .ref (ad k)] : List Value).toArray = args at hts hQ ⊢
  have hl : lv_has ls 2 [(0, .ref bo), (1, .ref (ad k))] := hl
  obtain ⟨H, hH⟩ : ∃ H : Heap, H = s.heap := ⟨_, rfl⟩
  rw [← hH] at hP
  rw [← hH]
  have hS : va_S A s.heap H [] := by rw [hH]; exact hS
  obtain ⟨locs, hlo⟩ : ∃ L : List Loc, L = [] := ⟨_, rfl⟩
  rw [← hlo] at hS
  rw [← hlo]
  clear hH hlo
  refine lv_aload_n hx hb dJx4a65c_add_9ea2d_0 rfl (lv_at hl 0 rfl) ?_
  refine lv_dup hx hb dJx4a65c_add_9ea2d_1 rfl ?_
  refine va_get (D := (dC, dI)) (ci := 1) (v := .int mdc) (C := RJx4a65c) (T := TJx4a65c) (N := 3) hx hb hts kc_ladd0b_1 hown hK hP 0 rfl rfl 0 (by decide) (hts (.fieldLink RJx4a65c 63 "java/util/ArrayList" "modCount" "I") kc_ladd0b_2) (fun x h => u_same (hts (.sameField "java/util/ArrayList" "java/util/AbstractList" "modCount" "I") kc_ladd0b_0) x h) rfl dJx4a65c_add_9ea2d_2 ?_
  refine lv_iconst (v := 1) hx hb dJx4a65c_add_9ea2d_5 (by decide) ?_
  refine lv_iadd hx hb dJx4a65c_add_9ea2d_6 ?_
  refine va_put (D := (dC, dI)) (ci := 1) (v := .int (mdc + 1)) (ty := .int) (C := RJx4a65c) (T := TJx4a65c) (N := 3) hx hb hts kc_ladd0b_1 tyJx4a65c tyJx4a65c_ok nmJx4a65c hown hK hP hD hS 0 rfl rfl 0 (by decide) (hts (.fieldLink RJx4a65c 63 "java/util/ArrayList" "modCount" "I") kc_ladd0b_2) (fun x h => u_same (hts (.sameField "java/util/ArrayList" "java/util/AbstractList" "modCount" "I") kc_ladd0b_0) x h) rfl (by decide +kernel) rfl rfl (Nat.le_of_ble_eq_true rfl) dJx4a65c_add_9ea2d_7 (fun H locs hP hD hS => ?_)
  have hP : va_P (dC, dI) vwCl [(zo1iri bo (mdc + 1) bS 0)] H := hP
  have hD : va_D A [(zo1iri bo (mdc + 1) bS 0)] := hD
  refine lv_aload_n hx hb dJx4a65c_add_9ea2d_10 rfl (lv_at hl 0 rfl) ?_
  refine lv_aload_n hx hb dJx4a65c_add_9ea2d_11 rfl (lv_at hl 1 rfl) ?_
  refine lv_aload_n hx hb dJx4a65c_add_9ea2d_12 rfl (lv_at hl 0 rfl) ?_
  refine va_get (D := (dC, dI)) (ci := 1) (v := .ref bS) (C := RJx4a65c) (T := TJx4a65c) (N := 3) hx hb hts kc_ladd0b_1 hown hK hP 0 rfl rfl 1 (by decide) (hts (.fieldLink RJx4a65c 9 "java/util/ArrayList" "elementData" "[Ljava/lang/Object;") kc_ladd0b_3) (fun _ h9 => h9) rfl dJx4a65c_add_9ea2d_13 ?_
  refine lv_aload_n hx hb dJx4a65c_add_9ea2d_16 rfl (lv_at hl 0 rfl) ?_
  refine va_get (D := (dC, dI)) (ci := 1) (v := .int 0) (C := RJx4a65c) (T := TJx4a65c) (N := 3) hx hb hts kc_ladd0b_1 hown hK hP 0 rfl rfl 2 (by decide) (hts (.fieldLink RJx4a65c 48 "java/util/ArrayList" "size" "I") kc_ladd0b_4) (fun _ h9 => h9) rfl dJx4a65c_add_9ea2d_17 ?_
  have hPc := hP.sub (ws' := [(zo1iri bo (mdc + 1) bS 0)]) [0] rfl
  have hDc := hD.sub (ws' := [(zo1iri bo (mdc + 1) bS 0)]) [0] (by decide) rfl
  have hKc := hK.sub (tys' := []) [] rfl
  have hFc := va_free (wc := [(zo1iri bo (mdc + 1) bS 0)]) hD hS hA [0] rfl
  refine va_callv (va_runV (As := [.ref (ad k), .ref bS, .int 0]) (rest := []) ⟨hx, hb, hml, hown, hts⟩ (c_ladd0 l dC dI ad cB bS bo (mdc + 1) k b0 H.size hkb) (cwV 3 hts gJx4a65c_add_9ea2d_Jx4a65c_add_72be8 rfl rfl rfl hd_yJx4a65c_add_72be8 ⟨Nat.le_of_ble_eq_true rfl, Nat.le_of_ble_eq_true rfl⟩) ⟨fun a U g mk q => by obtain ⟨q0, q1, qP, qK, qD, qhI_⟩ := q; exact ⟨q0, mvz g mk a q1, mvP g mk a qP, mvK g mk a qK, qD, qhI_.mv g mk a⟩, va_recv hK hP (ci := 1) (q := (RJx4a65c, TJx4a65c, 3)) (q0 := 0) rfl rfl, fun U hU hW => ⟨rfl, by rw [hU], by rw [hU]; exact hPc, va_K.moved hW.alike hKc, hDc.weaken (fun _ _ _ _ => trivial), hI_.call hS hU hW (fun q h => hFc q h)⟩⟩ rfl rfl hl.1 rfl (lv_room (Nat.le_of_ble_eq_true rfl)) dJx4a65c_add_9ea2d_20 ⟨Nat.le_of_ble_eq_true rfl, Nat.le_of_ble_eq_true rfl⟩) hS (fun q _ h => hFc q h) hFc (fun u tC H1 locs htC hvm hw_2 hB hz1 hk1 hS => ?_)
  obtain ⟨mdc9_3, aEl9_4, cEl9_5, sz_9_6, fEl9_7⟩ := u
  try dsimp only at hw_2 hB
  obtain ⟨hP1, hK1, hD1⟩ := hB
  rw [htC] at hP1
  have hK1 := va_K.moved hvm.symm hK1
  obtain ⟨hP, hD⟩ := va_join (wr := []) (w1 := [(zo1iri bo mdc9_3 aEl9_4 (nI sz_9_6)), (zaR aEl9_4 cEl9_5 10 fEl9_7)]) hP hD [0] [] rfl rfl (by decide) (by decide) hk1 hFc hP1 hD1
  have hK := (hK.sub (tys' := []) [] rfl).app hK1
  generalize H1 = H at hP hS ⊢
  have hP : va_P (dC, dI) vwCl [(zo1iri bo mdc9_3 aEl9_4 (nI sz_9_6)), (zaR aEl9_4 cEl9_5 10 fEl9_7)] H := hP
  have hD : va_D A [(zo1iri bo mdc9_3 aEl9_4 (nI sz_9_6)), (zaR aEl9_4 cEl9_5 10 fEl9_7)] := hD
  have hK : va_K (dC, dI) vwCl [(cEl9_5, .object "java/lang/Object")] s := hK
  refine W.widen (k := 1) (n := 10) (by omega) (by omega) ?_
  refine lv_iconst (v := 1) hx hb dJx4a65c_add_9ea2d_23 (by decide) ?_
  rw [hQ]
  have hP9 := hP.sub (ws' := [(zo1iri bo mdc9_3 aEl9_4 (nI sz_9_6)), (zaR aEl9_4 cEl9_5 10 fEl9_7)]) [0, 1] rfl
  have hD9 := hD.sub (ws' := [(zo1iri bo mdc9_3 aEl9_4 (nI sz_9_6)), (zaR aEl9_4 cEl9_5 10 fEl9_7)]) [0, 1] (by decide) rfl
  have hK9 := hK.sub (tys' := [(cEl9_5, .object "java/lang/Object")]) [0] rfl
  refine W.widen (k := 1) (n := 10) (by omega) (by omega) ?_
  exact W.zret (v := 1) hx hb hr rfl (fun tQ htQ hWQ => ⟨⟨1, (mdc9_3, aEl9_4, cEl9_5, sz_9_6, fEl9_7), rfl, hw_2, by rw [htQ]; exact hP9, va_K.moved hWQ.alike hK9, hD9⟩, hS.F htQ⟩) hS.2.2 dJx4a65c_add_9ea2d_24

theorem nI_nle2 {a b : Nat} (h : b < a) (ha : a < 2 ^ 31) : ¬ nI a ≤ nI b := fun q => absurd ((nI_leI (a := a) (b := b) ha (by omega)).mp q) (by omega)

set_option maxHeartbeats 4000000 in
set_option maxRecDepth 100000 in
theorem c_begin1 (l : Launch) (dC : Nat → ClassId) (dI : Nat → Nat → Nat) (ad : Nat → Nat) (cB bS : Nat) (bo : Nat) (aEl : Nat) (k : Nat) (cEl : ClassId) (fEl : Nat → Option Nat) (sz_ : Nat) (mdc : Int32) (tl : List Nat) (sz : Nat) (hsz : sz_ < 10) (hk99 : k < 100) (zL : okL ad fEl sz_ tl) : Met l yX3_begin wsX3_begin ({ frames := 2, cells := 0, slots := 0, locals := 44 } : Room) (va_Pc [.int (nI k), .ref bo] (fun U => U.heap.size = sz ∧ va_P (dC, dI) vwCl [(zo1iri bo mdc aEl (nI sz_)), (zaR aEl cEl 10 fEl)] U.heap ∧ va_K (dC, dI) vwCl [(cEl, .object "java/lang/Object")] U ∧ va_D (fun _ => True) [(zo1iri bo mdc aEl (nI sz_)), (zaR aEl cEl 10 fEl)] ∧ Gi ad cB bS (va_A [(zo1iri bo mdc aEl (nI sz_)), (zaR aEl cEl 10 fEl)] sz) U)) (va_Qv (fun (u : (Int32) × (Nat) × (Nat → Option Nat)) => match u with | (mdc9, sz_9, fEl9) => sz_9 = sz_ + 1 ∧ okL ad fEl9 (sz_ + 1) (tl ++ [k])) (fun (u : (Int32) × (Nat) × (Nat → Option Nat)) (t : State) => match u with | (mdc9, sz_9, fEl9) => va_P (dC, dI) vwCl [(zo1iri bo mdc9 aEl (nI sz_9)), (zaR aEl cEl 10 fEl9)] t.heap ∧ va_K (dC, dI) vwCl [(cEl, .object "java/lang/Object")] t ∧ va_D (va_A [(zo1iri bo mdc aEl (nI sz_)), (zaR aEl cEl 10 fEl)] sz) [(zo1iri bo mdc9 aEl (nI sz_9)), (zaR aEl cEl 10 fEl9)]) (va_A [(zo1iri bo mdc aEl (nI sz_)), (zaR aEl cEl 10 fEl)] sz)) 0 0 (va_A [(zo1iri bo mdc aEl (nI sz_)), (zaR aEl cEl 10 fEl)] sz) := by
  refine met_ofQ (cc := cX3_begin) (maxL := 2) (ret := none) (by decide) rfl ?_
  intro p e s m args below meth c s₁ Q B hml hv hQ
  obtain ⟨rfl, hsz, hP, hK, hD0, hI_⟩ := hv
  have hx := B.exec
  have hb := B.bytes
  have hr := B.returns
  have hts := atoms_spec (ws := wsX3_begin) B.pre
  have hown : s.vm.findClass RX3 = some m.cls := findClass_of_methodNamed B.named
  have hlocks := B.notSynchronized
  subst hsz
  have hD := hD0.self (sz := s.heap.size)
  generalize hAe : va_A [(zo1iri bo mdc aEl (nI sz_)), (zaR aEl cEl 10 fEl)] s.heap.size = A at hD hQ hI_ ⊢
  have hA : ∀ q : Nat, s.heap.size ≤ q → A q := fun q h => by rw [← hAe]; exact Or.inr h
  have hS : va_S A s.heap s.heap [] := va_S.rf
  have hl := lv_entry [.int (nI k), .ref bo] (n := 2) (Nat.le_of_ble_eq_true rfl)
  rw [lg_entry_eq]
  generalize (lg_sl [.int (nI k), .ref bo] ++ List.replicate (2 - (lg_sl [.int (nI k), .ref bo]).length) Slot.unset).toArray = ls at hl ⊢
  generalize hag : ([.int (nI k), .ref bo] : List Value).toArray = args at hts hQ ⊢
  have hl : lv_has ls 2 [(0, .int (nI k)), (1, .ref bo)] := hl
  obtain ⟨H, hH⟩ : ∃ H : Heap, H = s.heap := ⟨_, rfl⟩
  rw [← hH] at hP
  rw [← hH]
  have hS : va_S A s.heap H [] := by rw [hH]; exact hS
  obtain ⟨locs, hlo⟩ : ∃ L : List Loc, L = [] := ⟨_, rfl⟩
  rw [← hlo] at hS
  rw [← hlo]
  clear hH hlo
  refine lv_aload_n hx hb dX3_begin_0 rfl (lv_at hl 1 rfl) ?_
  have hPc := hP.sub (ws' := [(zo1iri bo mdc aEl (nI sz_))]) [0] rfl
  have hKc := hK.sub (tys' := []) [] rfl
  refine vp_callSi (va_runV (As := []) (rest := []) ⟨hx, hb, hml, hown, hts⟩ (c_lsize1 l dC dI bo aEl sz_ mdc) (cwV 0 hts gX3_begin_Jx4a65c_size_8abf5 rfl rfl rfl hd_yJx4a65c_size_8abf5 ⟨Nat.le_of_ble_eq_true rfl, Nat.le_of_ble_eq_true rfl⟩) ⟨fun a U g mk q => by obtain ⟨q0, qP, qK⟩ := q; exact ⟨q0, mvP g mk a qP, mvK g mk a qK⟩, va_recv hK hP (ci := 1) (q := (RJx4a65c, TJx4a65c, 3)) (q0 := 0) rfl rfl, fun U hU hW => ⟨rfl, by rw [hU]; exact hPc, va_K.moved hW.alike hKc⟩⟩ rfl rfl hl.1 rfl (lv_room (Nat.le_of_ble_eq_true rfl)) dX3_begin_1 ⟨Nat.le_of_ble_eq_true rfl, Nat.le_of_ble_eq_true rfl⟩).run (fun r_1 hw_2 => ?_)
  refine qi_as (y := nI sz_) hw_2 ?_
  refine lv_bipush (v := 20) hx hb dX3_begin_4 (by decide) ?_
  refine lv_icmp_ge (tgt := 18) hx hb dX3_begin_6 (by decide) (fun c_3 => ?_) (fun c_3 => ?_)
  · skip
    have c_3 : 20 ≤ sz_ := (nI_leI (a := 20) (b := sz_) (by omega) (by omega)).mp c_3
    exfalso
    omega
  · skip
    have c_3 : ¬ 20 ≤ sz_ := fun q => c_3 ((nI_leI (a := 20) (b := sz_) (by omega) (by omega)).mpr q)
    refine lv_aload_n hx hb dX3_begin_9 rfl (lv_at hl 1 rfl) ?_
    refine lv_iload_n hx hb dX3_begin_10 rfl (lv_at hl 0 rfl) ?_
    obtain ⟨kb, hkb⟩ : ∃ q : Nat, q = k + 128 := ⟨_, rfl⟩
    refine va_csq (va_runS (As := [.int (nI k)]) (rest := [.ref bo]) ⟨hx, hb, hml, hown, hts⟩ (c_valueOf l dC dI ad cB bS k (by omega)) (va_cwS 1 hts gX3_begin_J6_valueOf_2dffe rfl rfl rfl hd_yJ6_valueOf_2dffe.2 ⟨Nat.le_of_ble_eq_true rfl, Nat.le_of_ble_eq_true rfl⟩) ⟨fun a U g mk q => by obtain ⟨q0, qhI_⟩ := q; exact ⟨q0, qhI_.mv g mk a⟩, fun U hU hW => ⟨rfl, hI_.callF hS hU hW⟩⟩ rfl rfl hl.1 rfl (lv_room (Nat.le_of_ble_eq_true rfl)) dX3_begin_11 ⟨Nat.le_of_ble_eq_true rfl, Nat.le_of_ble_eq_true rfl⟩).run (fun r_4 hw_5 => ?_)
    refine qq_as (v := .ref (ad kb)) (by rw [hw_5, hkb]; rfl) ?_
    have hPc := hP.sub (ws' := [(zo1iri bo mdc aEl (nI sz_)), (zaR aEl cEl 10 fEl)]) [0, 1] rfl
    have hDc := hD.sub (ws' := [(zo1iri bo mdc aEl (nI sz_)), (zaR aEl cEl 10 fEl)]) [0, 1] (by decide) rfl
    have hKc := hK.sub (tys' := [(cEl, .object "java/lang/Object")]) [0] rfl
    have hFc := va_free (wc := [(zo1iri bo mdc aEl (nI sz_)), (zaR aEl cEl 10 fEl)]) hD hS hA [0, 1] rfl
    refine va_calli (va_runV (As := [.ref (ad kb)]) (rest := []) ⟨hx, hb, hml, hown, hts⟩ (c_ladd1b l dC dI ad cB bS bo aEl kb cEl fEl k sz_ mdc tl k H.size (by omega) (⟨hkb, hk99⟩) (zL)) (cwV 1 hts gX3_begin_Jx4a65c_add_9ea2d rfl rfl rfl hd_yJx4a65c_add_9ea2d ⟨Nat.le_of_ble_eq_true rfl, Nat.le_of_ble_eq_true rfl⟩) ⟨fun a U g mk q => by obtain ⟨q0, q1, qP, qK, qD, qhI_⟩ := q; exact ⟨q0, mvz g mk a q1, mvP g mk a qP, mvK g mk a qK, qD, qhI_.mv g mk a⟩, va_recv hK hP (ci := 1) (q := (RJx4a65c, TJx4a65c, 3)) (q0 := 0) rfl rfl, fun U hU hW => ⟨rfl, by rw [hU], by rw [hU]; exact hPc, va_K.moved hW.alike hKc, hDc.weaken (fun _ _ _ _ => trivial), hI_.call hS hU hW (fun q h => hFc q h)⟩⟩ rfl rfl hl.1 rfl (lv_room (Nat.le_of_ble_eq_true rfl)) dX3_begin_14 ⟨Nat.le_of_ble_eq_true rfl, Nat.le_of_ble_eq_true rfl⟩) hS (fun q _ h => hFc q h) hFc (fun r_6 u tC H1 locs htC hvm hw_7 hB hz1 hk1 hS => ?_)
    obtain ⟨mdc9_8, sz_9_9, fEl9_10⟩ := u
    try dsimp only at hw_7 hB
    obtain ⟨hP1, hK1, hD1⟩ := hB
    rw [htC] at hP1
    have hK1 := va_K.moved hvm.symm hK1
    obtain ⟨hP, hD⟩ := va_join (wr := []) (w1 := [(zo1iri bo mdc9_8 aEl (nI sz_9_9)), (zaR aEl cEl 10 fEl9_10)]) hP hD [0, 1] [] rfl rfl (by decide) (by decide) hk1 hFc hP1 hD1
    have hK := (hK.sub (tys' := []) [] rfl).app hK1
    generalize H1 = H at hP hS ⊢
    have hP : va_P (dC, dI) vwCl [(zo1iri bo mdc9_8 aEl (nI sz_9_9)), (zaR aEl cEl 10 fEl9_10)] H := hP
    have hD : va_D A [(zo1iri bo mdc9_8 aEl (nI sz_9_9)), (zaR aEl cEl 10 fEl9_10)] := hD
    have hK : va_K (dC, dI) vwCl [(cEl, .object "java/lang/Object")] s := hK
    obtain ⟨e_11, hL_12⟩ := hw_7
    obtain rfl := (e_11).symm
    refine lv_pop hx hb dX3_begin_17 rfl ?_
    rw [hQ]
    have hP9 := hP.sub (ws' := [(zo1iri bo mdc9_8 aEl (nI (sz_ + 1))), (zaR aEl cEl 10 fEl9_10)]) [0, 1] rfl
    have hD9 := hD.sub (ws' := [(zo1iri bo mdc9_8 aEl (nI (sz_ + 1))), (zaR aEl cEl 10 fEl9_10)]) [0, 1] (by decide) rfl
    have hK9 := hK.sub (tys' := [(cEl, .object "java/lang/Object")]) [0] rfl
    exact W.vret hx hb hr (fun tQ htQ hWQ => ⟨⟨(mdc9_8, (sz_ + 1), fEl9_10), rfl, ⟨rfl, hL_12⟩, by rw [htQ]; exact hP9, va_K.moved hWQ.alike hK9, hD9⟩, hS.F htQ⟩) hS.2.2 dX3_begin_18

set_option maxHeartbeats 4000000 in
set_option maxRecDepth 100000 in
theorem c_begin0 (l : Launch) (dC : Nat → ClassId) (dI : Nat → Nat → Nat) (ad : Nat → Nat) (cB bS : Nat) (bo : Nat) (mdc : Int32) (k : Nat) (sz : Nat) (hk99 : k < 100) : Met l yX3_begin wsX3_begin ({ frames := 5, cells := 1, slots := 10, locals := 101 } : Room) (va_Pc [.int (nI k), .ref bo] (fun U => U.heap.size = sz ∧ va_P (dC, dI) vwCl [(zo1iri bo mdc bS 0)] U.heap ∧ va_K (dC, dI) vwCl [] U ∧ va_D (fun _ => True) [(zo1iri bo mdc bS 0)] ∧ Gi ad cB bS (va_A [(zo1iri bo mdc bS 0)] sz) U)) (va_Qv (fun (u : (Int32) × (Nat) × (ClassId) × (Nat) × (Nat → Option Nat)) => match u with | (mdc9, aEl9, cEl9, sz_9, fEl9) => sz_9 = 1 ∧ okL ad fEl9 1 [k]) (fun (u : (Int32) × (Nat) × (ClassId) × (Nat) × (Nat → Option Nat)) (t : State) => match u with | (mdc9, aEl9, cEl9, sz_9, fEl9) => va_P (dC, dI) vwCl [(zo1iri bo mdc9 aEl9 (nI sz_9)), (zaR aEl9 cEl9 10 fEl9)] t.heap ∧ va_K (dC, dI) vwCl [(cEl9, .object "java/lang/Object")] t ∧ va_D (va_A [(zo1iri bo mdc bS 0)] sz) [(zo1iri bo mdc9 aEl9 (nI sz_9)), (zaR aEl9 cEl9 10 fEl9)]) (va_A [(zo1iri bo mdc bS 0)] sz)) 1 10 (va_A [(zo1iri bo mdc bS 0)] sz) := by
  refine met_ofQ (cc := cX3_begin) (maxL := 2) (ret := none) (by decide) rfl ?_
  intro p e s m args below meth c s₁ Q B hml hv hQ
  obtain ⟨rfl, hsz, hP, hK, hD0, hI_⟩ := hv
  have hx := B.exec
  have hb := B.bytes
  have hr := B.returns
  have hts := atoms_spec (ws := wsX3_begin) B.pre
  have hown : s.vm.findClass RX3 = some m.cls := findClass_of_methodNamed B.named
  have hlocks := B.notSynchronized
  subst hsz
  have hD := hD0.self (sz := s.heap.size)
  generalize hAe : va_A [(zo1iri bo mdc bS 0)] s.heap.size = A at hD hQ hI_ ⊢
  have hA : ∀ q : Nat, s.heap.size ≤ q → A q := fun q h => by rw [← hAe]; exact Or.inr h
  have hS : va_S A s.heap s.heap [] := va_S.rf
  have hl := lv_entry [.int (nI k), .ref bo] (n := 2) (Nat.le_of_ble_eq_true rfl)
  rw [lg_entry_eq]
  generalize (lg_sl [.int (nI k), .ref bo] ++ List.replicate (2 - (lg_sl [.int (nI k), .ref bo]).length) Slot.unset).toArray = ls at hl ⊢
  generalize hag : ([.int (nI k), .ref bo] : List Value).toArray = args at hts hQ ⊢
  have hl : lv_has ls 2 [(0, .int (nI k)), (1, .ref bo)] := hl
  obtain ⟨H, hH⟩ : ∃ H : Heap, H = s.heap := ⟨_, rfl⟩
  rw [← hH] at hP
  rw [← hH]
  have hS : va_S A s.heap H [] := by rw [hH]; exact hS
  obtain ⟨locs, hlo⟩ : ∃ L : List Loc, L = [] := ⟨_, rfl⟩
  rw [← hlo] at hS
  rw [← hlo]
  clear hH hlo
  refine lv_aload_n hx hb dX3_begin_0 rfl (lv_at hl 1 rfl) ?_
  have hPc := hP.sub (ws' := [(zo1iri bo mdc bS 0)]) [0] rfl
  have hKc := hK.sub (tys' := []) [] rfl
  refine vp_callSi (va_runV (As := []) (rest := []) ⟨hx, hb, hml, hown, hts⟩ (c_lsize0 l dC dI bo bS mdc) (cwV 0 hts gX3_begin_Jx4a65c_size_8abf5 rfl rfl rfl hd_yJx4a65c_size_8abf5 ⟨Nat.le_of_ble_eq_true rfl, Nat.le_of_ble_eq_true rfl⟩) ⟨fun a U g mk q => by obtain ⟨q0, qP, qK⟩ := q; exact ⟨q0, mvP g mk a qP, mvK g mk a qK⟩, va_recv hK hP (ci := 1) (q := (RJx4a65c, TJx4a65c, 3)) (q0 := 0) rfl rfl, fun U hU hW => ⟨rfl, by rw [hU]; exact hPc, va_K.moved hW.alike hKc⟩⟩ rfl rfl hl.1 rfl (lv_room (Nat.le_of_ble_eq_true rfl)) dX3_begin_1 ⟨Nat.le_of_ble_eq_true rfl, Nat.le_of_ble_eq_true rfl⟩).run (fun r_1 hw_2 => ?_)
  refine qi_as (y := 0) hw_2 ?_
  refine lv_bipush (v := 20) hx hb dX3_begin_4 (by decide) ?_
  refine lv_icmp_ge (tgt := 18) hx hb dX3_begin_6 (by decide) (fun c_3 => absurd c_3 (by decide)) (fun _ => ?_)
  refine lv_aload_n hx hb dX3_begin_9 rfl (lv_at hl 1 rfl) ?_
  refine lv_iload_n hx hb dX3_begin_10 rfl (lv_at hl 0 rfl) ?_
  obtain ⟨kb, hkb⟩ : ∃ q : Nat, q = k + 128 := ⟨_, rfl⟩
  refine va_csq (va_runS (As := [.int (nI k)]) (rest := [.ref bo]) ⟨hx, hb, hml, hown, hts⟩ (c_valueOf l dC dI ad cB bS k (by omega)) (va_cwS 1 hts gX3_begin_J6_valueOf_2dffe rfl rfl rfl hd_yJ6_valueOf_2dffe.2 ⟨Nat.le_of_ble_eq_true rfl, Nat.le_of_ble_eq_true rfl⟩) ⟨fun a U g mk q => by obtain ⟨q0, qhI_⟩ := q; exact ⟨q0, qhI_.mv g mk a⟩, fun U hU hW => ⟨rfl, hI_.callF hS hU hW⟩⟩ rfl rfl hl.1 rfl (lv_room (Nat.le_of_ble_eq_true rfl)) dX3_begin_11 ⟨Nat.le_of_ble_eq_true rfl, Nat.le_of_ble_eq_true rfl⟩).run (fun r_4 hw_5 => ?_)
  refine qq_as (v := .ref (ad kb)) (by rw [hw_5, hkb]; rfl) ?_
  have hPc := hP.sub (ws' := [(zo1iri bo mdc bS 0)]) [0] rfl
  have hDc := hD.sub (ws' := [(zo1iri bo mdc bS 0)]) [0] (by decide) rfl
  have hKc := hK.sub (tys' := []) [] rfl
  have hFc := va_free (wc := [(zo1iri bo mdc bS 0)]) hD hS hA [0] rfl
  refine va_calli (va_runV (As := [.ref (ad kb)]) (rest := []) ⟨hx, hb, hml, hown, hts⟩ (c_ladd0b l dC dI ad cB bS bo mdc kb k H.size ⟨hkb, hk99⟩) (cwV 1 hts gX3_begin_Jx4a65c_add_9ea2d rfl rfl rfl hd_yJx4a65c_add_9ea2d ⟨Nat.le_of_ble_eq_true rfl, Nat.le_of_ble_eq_true rfl⟩) ⟨fun a U g mk q => by obtain ⟨q0, q1, qP, qK, qD, qhI_⟩ := q; exact ⟨q0, mvz g mk a q1, mvP g mk a qP, mvK g mk a qK, qD, qhI_.mv g mk a⟩, va_recv hK hP (ci := 1) (q := (RJx4a65c, TJx4a65c, 3)) (q0 := 0) rfl rfl, fun U hU hW => ⟨rfl, by rw [hU], by rw [hU]; exact hPc, va_K.moved hW.alike hKc, hDc.weaken (fun _ _ _ _ => trivial), hI_.call hS hU hW (fun q h => hFc q h)⟩⟩ rfl rfl hl.1 rfl (lv_room (Nat.le_of_ble_eq_true rfl)) dX3_begin_14 ⟨Nat.le_of_ble_eq_true rfl, Nat.le_of_ble_eq_true rfl⟩) hS (fun q _ h => hFc q h) hFc (fun r_6 u tC H1 locs htC hvm hw_7 hB hz1 hk1 hS => ?_)
  obtain ⟨mdc9_8, aEl9_9, cEl9_10, sz_9_11, fEl9_12⟩ := u
  try dsimp only at hw_7 hB
  obtain ⟨hP1, hK1, hD1⟩ := hB
  rw [htC] at hP1
  have hK1 := va_K.moved hvm.symm hK1
  obtain ⟨hP, hD⟩ := va_join (wr := []) (w1 := [(zo1iri bo mdc9_8 aEl9_9 (nI sz_9_11)), (zaR aEl9_9 cEl9_10 10 fEl9_12)]) hP hD [0] [] rfl rfl (by decide) (by decide) hk1 hFc hP1 hD1
  have hK := (hK.sub (tys' := []) [] rfl).app hK1
  generalize H1 = H at hP hS ⊢
  have hP : va_P (dC, dI) vwCl [(zo1iri bo mdc9_8 aEl9_9 (nI sz_9_11)), (zaR aEl9_9 cEl9_10 10 fEl9_12)] H := hP
  have hD : va_D A [(zo1iri bo mdc9_8 aEl9_9 (nI sz_9_11)), (zaR aEl9_9 cEl9_10 10 fEl9_12)] := hD
  have hK : va_K (dC, dI) vwCl [(cEl9_10, .object "java/lang/Object")] s := hK
  refine W.widen (k := 1) (n := 10) (by omega) (by omega) ?_
  refine lv_pop hx hb dX3_begin_17 rfl ?_
  rw [hQ]
  have hP9 := hP.sub (ws' := [(zo1iri bo mdc9_8 aEl9_9 (nI sz_9_11)), (zaR aEl9_9 cEl9_10 10 fEl9_12)]) [0, 1] rfl
  have hD9 := hD.sub (ws' := [(zo1iri bo mdc9_8 aEl9_9 (nI sz_9_11)), (zaR aEl9_9 cEl9_10 10 fEl9_12)]) [0, 1] (by decide) rfl
  have hK9 := hK.sub (tys' := [(cEl9_10, .object "java/lang/Object")]) [0] rfl
  refine W.widen (k := 1) (n := 10) (by omega) (by omega) ?_
  exact W.vret hx hb hr (fun tQ htQ hWQ => ⟨⟨(mdc9_8, aEl9_9, cEl9_10, sz_9_11, fEl9_12), rfl, hw_7, by rw [htQ]; exact hP9, va_K.moved hWQ.alike hK9, hD9⟩, hS.F htQ⟩) hS.2.2 dX3_begin_18

set_option maxHeartbeats 4000000 in
set_option maxRecDepth 100000 in
theorem c_chk15 (l : Launch) (dC : Nat → ClassId) (dI : Nat → Nat → Nat) (k n : Nat) (hkn : k < n) (hn7 : n < 100) : Met l yJ15_checkIndex_7cf53 wsJ15_checkIndex_7cf53 ({ frames := 1, cells := 0, slots := 0, locals := 22 } : Room) (va_Pc [.int (nI k), .int (nI n)] (fun U => True)) (vp_Si (fun r => True)) 0 0 (fun _ => False) := by
  refine met_ofQ (cc := cJ15_checkIndex_7cf53) (maxL := 2) (ret := (some .int)) (by decide) rfl ?_
  intro p e s m args below meth c s₁ Q B hml hv hQ
  obtain ⟨rfl, -⟩ := hv
  have hx := B.exec
  have hb := B.bytes
  have hr := B.returns
  have hts := atoms_spec (ws := wsJ15_checkIndex_7cf53) B.pre
  have hown : s.vm.findClass RJ15 = some m.cls := findClass_of_methodNamed B.named
  have hlocks := B.notSynchronized
  obtain ⟨A, hAe⟩ : ∃ A : Nat → Prop, A = fun _ => False := ⟨_, rfl⟩
  rw [← hAe] at hQ
  have hS : va_S A s.heap s.heap [] := va_S.rf
  have hl := lv_entry [.int (nI k), .int (nI n)] (n := 2) (Nat.le_of_ble_eq_true rfl)
  rw [lg_entry_eq]
  generalize (lg_sl [.int (nI k), .int (nI n)] ++ List.replicate (2 - (lg_sl [.int (nI k), .int (nI n)]).length) Slot.unset).toArray = ls at hl ⊢
  generalize hag : ([.int (nI k), .int (nI n)] : List Value).toArray = args at hts hQ ⊢
  have hl : lv_has ls 2 [(0, .int (nI k)), (1, .int (nI n))] := hl
  refine lv_iload_n hx hb dJ15_checkIndex_7cf53_0 rfl (lv_at hl 0 rfl) ?_
  refine lv_iload_n hx hb dJ15_checkIndex_7cf53_1 rfl (lv_at hl 1 rfl) ?_
  refine lv_null hx hb dJ15_checkIndex_7cf53_2 ?_
  refine vp_callSi (va_runS (As := [.int (nI k), .int (nI n), .null]) (rest := []) ⟨hx, hb, hml, hown, hts⟩ (c_chk3N l dC dI k n hkn hn7) (va_cwS 3 hts gJ15_checkIndex_7cf53_J3_checkIndex_8e157 rfl rfl rfl hd_yJ3_checkIndex_8e157.2 ⟨Nat.le_of_ble_eq_true rfl, Nat.le_of_ble_eq_true rfl⟩) ⟨fun a U g mk q => ⟨q.1, trivial⟩, fun U hU hW => ⟨rfl, trivial⟩⟩ rfl rfl hl.1 rfl (lv_room (Nat.le_of_ble_eq_true rfl)) dJ15_checkIndex_7cf53_3 ⟨Nat.le_of_ble_eq_true rfl, Nat.le_of_ble_eq_true rfl⟩).run (fun r_1 hw_2 => ?_)
  rw [hQ]
  exact W.iret (v := r_1) hx hb hr (fun tQ htQ hWQ => ⟨r_1, rfl, trivial, by rw [htQ]⟩) (fun q hq => absurd hq List.not_mem_nil) dJ15_checkIndex_7cf53_6

theorem kc_lelem_0 : ∀ w ∈ wsJx4a65c0, w ∈ wsJx4a65c_elementData_915e3 := fun w h => List.mem_cons_of_mem _ (gin_wsJx4a65c0 w h)
theorem kc_lelem_1 : (.fieldLink RJx4a65c 9 "java/util/ArrayList" "elementData" "[Ljava/lang/Object;" : Cond) ∈ wsJx4a65c_elementData_915e3 := kc_of 316 rfl rfl rfl
set_option maxHeartbeats 4000000 in
set_option maxRecDepth 100000 in
theorem c_lelem (l : Launch) (dC : Nat → ClassId) (dI : Nat → Nat → Nat) (bo : Nat) (aEl : Nat) (k : Nat) (cEl : ClassId) (fEl : Nat → Option Nat) (sz_ : Nat) (mdc : Int32) (hk10 : k < 10) : Met l yJx4a65c_elementData_915e3 wsJx4a65c_elementData_915e3 ({ frames := 0, cells := 0, slots := 0, locals := 0 } : Room) (va_Pc [.ref bo, .int (nI k)] (fun U => va_P (dC, dI) vwCl [(zo1iri bo mdc aEl (nI sz_)), (zaR aEl cEl 10 fEl)] U.heap ∧ va_K (dC, dI) vwCl [(cEl, .object "java/lang/Object")] U)) (va_Sq (fun r => r = fEl k)) 0 0 (fun _ => False) := by
  refine met_ofQ (cc := cJx4a65c_elementData_915e3) (maxL := 2) (ret := (some (.object "java/lang/Object"))) (by decide) rfl ?_
  intro p e s m args below meth c s₁ Q B hml hv hQ
  obtain ⟨rfl, hP, hK⟩ := hv
  have hx := B.exec
  have hb := B.bytes
  have hr := B.returns
  have hts := atoms_spec (ws := wsJx4a65c_elementData_915e3) B.pre
  have hown : s.vm.findClass RJx4a65c = some m.cls := findClass_of_methodNamed B.named
  have hlocks := B.notSynchronized
  obtain ⟨A, hAe⟩ : ∃ A : Nat → Prop, A = fun _ => False := ⟨_, rfl⟩
  rw [← hAe] at hQ
  have hS : va_S A s.heap s.heap [] := va_S.rf
  have hl := lv_entry [.ref bo, .int (nI k)] (n := 2) (Nat.le_of_ble_eq_true rfl)
  rw [lg_entry_eq]
  generalize (lg_sl [.ref bo, .int (nI k)] ++ List.replicate (2 - (lg_sl [.ref bo, .int (nI k)]).length) Slot.unset).toArray = ls at hl ⊢
  generalize hag : ([.ref bo, .int (nI k)] : List Value).toArray = args at hts hQ ⊢
  have hl : lv_has ls 2 [(0, .ref bo), (1, .int (nI k))] := hl
  refine lv_aload_n hx hb dJx4a65c_elementData_915e3_0 rfl (lv_at hl 0 rfl) ?_
  refine va_get (D := (dC, dI)) (ci := 1) (v := .ref aEl) (C := RJx4a65c) (T := TJx4a65c) (N := 3) hx hb hts kc_lelem_0 hown hK hP 0 rfl rfl 1 (by decide) (hts (.fieldLink RJx4a65c 9 "java/util/ArrayList" "elementData" "[Ljava/lang/Object;") kc_lelem_1) (fun _ h9 => h9) rfl dJx4a65c_elementData_915e3_1 ?_
  refine lv_iload_n hx hb dJx4a65c_elementData_915e3_4 rfl (lv_at hl 1 rfl) ?_
  refine va_aldq hx hb hK hP 1 0 rfl rfl (vp_in_nI (n := k) (N := 10) (by omega) (by omega)) dJx4a65c_elementData_915e3_5 ?_
  rw [nI_clamp (n := k) (by omega)]
  rw [hQ]
  exact W.aret (v := va_rf (fEl k)) hx hb hr (Or.inl ⟨_, rfl⟩) (va_rf_or _) (fun tQ htQ hWQ => ⟨fEl k, rfl, rfl, by rw [htQ]⟩) (fun q hq => absurd hq List.not_mem_nil) dJx4a65c_elementData_915e3_6

theorem kc_lget_0 : ∀ w ∈ wsJx4a65c0, w ∈ wsJx4a65c_get_915e3 := fun w h => List.mem_cons_of_mem _ (gin_wsJx4a65c0 w h)
theorem kc_lget_1 : (.fieldLink RJx4a65c 48 "java/util/ArrayList" "size" "I" : Cond) ∈ wsJx4a65c_get_915e3 := kc_of 317 rfl rfl rfl
set_option maxHeartbeats 4000000 in
set_option maxRecDepth 100000 in
theorem c_lget (l : Launch) (dC : Nat → ClassId) (dI : Nat → Nat → Nat) (bo : Nat) (aEl : Nat) (k : Nat) (cEl : ClassId) (fEl : Nat → Option Nat) (sz_ : Nat) (mdc : Int32) (hksz : k < sz_) (hsz : sz_ ≤ 10) : Met l yJx4a65c_get_915e3 wsJx4a65c_get_915e3 ({ frames := 2, cells := 0, slots := 0, locals := 43 } : Room) (va_Pc [.ref bo, .int (nI k)] (fun U => va_P (dC, dI) vwCl [(zo1iri bo mdc aEl (nI sz_)), (zaR aEl cEl 10 fEl)] U.heap ∧ va_K (dC, dI) vwCl [(cEl, .object "java/lang/Object")] U)) (va_Sq (fun r => r = fEl k)) 0 0 (fun _ => False) := by
  refine met_ofQ (cc := cJx4a65c_get_915e3) (maxL := 2) (ret := (some (.object "java/lang/Object"))) (by decide) rfl ?_
  intro p e s m args below meth c s₁ Q B hml hv hQ
  obtain ⟨rfl, hP, hK⟩ := hv
  have hx := B.exec
  have hb := B.bytes
  have hr := B.returns
  have hts := atoms_spec (ws := wsJx4a65c_get_915e3) B.pre
  have hown : s.vm.findClass RJx4a65c = some m.cls := findClass_of_methodNamed B.named
  have hlocks := B.notSynchronized
  obtain ⟨A, hAe⟩ : ∃ A : Nat → Prop, A = fun _ => False := ⟨_, rfl⟩
  rw [← hAe] at hQ
  have hS : va_S A s.heap s.heap [] := va_S.rf
  have hl := lv_entry [.ref bo, .int (nI k)] (n := 2) (Nat.le_of_ble_eq_true rfl)
  rw [lg_entry_eq]
  generalize (lg_sl [.ref bo, .int (nI k)] ++ List.replicate (2 - (lg_sl [.ref bo, .int (nI k)]).length) Slot.unset).toArray = ls at hl ⊢
  generalize hag : ([.ref bo, .int (nI k)] : List Value).toArray = args at hts hQ ⊢
  have hl : lv_has ls 2 [(0, .ref bo), (1, .int (nI k))] := hl
  refine lv_iload_n hx hb dJx4a65c_get_915e3_0 rfl (lv_at hl 1 rfl) ?_
  refine lv_aload_n hx hb dJx4a65c_get_915e3_1 rfl (lv_at hl 0 rfl) ?_
  refine va_get (D := (dC, dI)) (ci := 1) (v := .int (nI sz_)) (C := RJx4a65c) (T := TJx4a65c) (N := 3) hx hb hts kc_lget_0 hown hK hP 0 rfl rfl 2 (by decide) (hts (.fieldLink RJx4a65c 48 "java/util/ArrayList" "size" "I") kc_lget_1) (fun _ h9 => h9) rfl dJx4a65c_get_915e3_2 ?_
  refine vp_callSi (va_runS (As := [.int (nI k), .int (nI sz_)]) (rest := []) ⟨hx, hb, hml, hown, hts⟩ (c_chk15 l dC dI k sz_ hksz (by omega)) (va_cwS 2 hts gJx4a65c_get_915e3_J15_checkIndex_7cf53 rfl rfl rfl hd_yJ15_checkIndex_7cf53.2 ⟨Nat.le_of_ble_eq_true rfl, Nat.le_of_ble_eq_true rfl⟩) ⟨fun a U g mk q => ⟨q.1, trivial⟩, fun U hU hW => ⟨rfl, trivial⟩⟩ rfl rfl hl.1 rfl (lv_room (Nat.le_of_ble_eq_true rfl)) dJx4a65c_get_915e3_5 ⟨Nat.le_of_ble_eq_true rfl, Nat.le_of_ble_eq_true rfl⟩).run (fun r_1 hw_2 => ?_)
  refine lv_pop hx hb dJx4a65c_get_915e3_8 rfl ?_
  refine lv_aload_n hx hb dJx4a65c_get_915e3_9 rfl (lv_at hl 0 rfl) ?_
  refine lv_iload_n hx hb dJx4a65c_get_915e3_10 rfl (lv_at hl 1 rfl) ?_
  have hPc := hP.sub (ws' := [(zo1iri bo mdc aEl (nI sz_)), (zaR aEl cEl 10 fEl)]) [0, 1] rfl
  have hKc := hK.sub (tys' := [(cEl, .object "java/lang/Object")]) [0] rfl
  refine va_csq (va_runV (As := [.int (nI k)]) (rest := []) ⟨hx, hb, hml, hown, hts⟩ (c_lelem l dC dI bo aEl k cEl fEl sz_ mdc (by omega)) (cwV 1 hts gJx4a65c_get_915e3_Jx4a65c_elementData_915e3 rfl rfl rfl hd_yJx4a65c_elementData_915e3 ⟨Nat.le_of_ble_eq_true rfl, Nat.le_of_ble_eq_true rfl⟩) ⟨fun a U g mk q => by obtain ⟨q0, qP, qK⟩ := q; exact ⟨q0, mvP g mk a qP, mvK g mk a qK⟩, va_recv hK hP (ci := 1) (q := (RJx4a65c, TJx4a65c, 3)) (q0 := 0) rfl rfl, fun U hU hW => ⟨rfl, by rw [hU]; exact hPc, va_K.moved hW.alike hKc⟩⟩ rfl rfl hl.1 rfl (lv_room (Nat.le_of_ble_eq_true rfl)) dJx4a65c_get_915e3_11 ⟨Nat.le_of_ble_eq_true rfl, Nat.le_of_ble_eq_true rfl⟩).run (fun r_3 hw_4 => ?_)
  rw [hQ]
  exact W.aret (v := va_rf (r_3)) hx hb hr (Or.inl ⟨_, rfl⟩) (va_rf_or _) (fun tQ htQ hWQ => ⟨r_3, rfl, hw_4, by rw [htQ]⟩) (fun q hq => absurd hq List.not_mem_nil) dJx4a65c_get_915e3_14
end mg15f
