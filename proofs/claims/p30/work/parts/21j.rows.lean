set_option maxRecDepth 100000 in
theorem ggL_law_X11_as : GoodIn wsL_law wsX11_as := goodIn_q _ [1184, 0, 480, 0, 480, 416, 32, 1184, 64, 1184, 64, 1184, 1216, 1280, 1312, 1248] [[0], [16], [7, 9, 10, 11], [15], [12], [2], [12], [1, 2, 3, 4], [2], [5], [8], [6, 7, 8, 9, 10, 11, 12], [20, 21, 22, 23, 24, 25, 26], [27, 28, 29, 30, 23, 24, 25, 26, 31], [0, 1, 2, 3, 4, 5, 6, 7, 8, 9, 10, 11, 12, 13, 14, 15, 16, 17, 18], [18, 19, 20, 21, 22, 23, 24, 25, 26, 27, 28, 29, 30, 31]] rfl (by decide +kernel)
set_option maxRecDepth 20000 in
theorem gL_law_X11_as : GoodIn wsL_law (wsV RL 128 RX11 yX11_as wsX11_as) := goodIn_app (goodIn_of _ (by decide +kernel)) ggL_law_X11_as
set_option maxRecDepth 100000 in
theorem ggL_law_X11_bestOdds : GoodIn wsL_law wsX11_bestOdds := goodIn_q _ [896, 608, 0, 896, 384, 0, 384, 864, 0, 864, 64, 800, 64, 800, 768, 0, 768, 32, 768, 256, 128, 256, 480, 0, 512, 128, 32, 512, 32, 512, 864, 64, 800, 864, 800, 576, 800, 864, 800, 832, 1216, 1280, 1248, 1280] [[22], [10], [30, 16], [23], [27, 28], [2], [29], [13, 14, 15], [29], [16, 17, 18], [19], [10, 11, 12, 13], [16], [14], [3, 4], [15], [5, 6], [10, 15], [7], [1], [22], [2], [21, 22, 23, 24, 20, 25, 26, 27, 28, 29, 30, 31], [21], [0], [15], [21, 22], [1, 2, 3, 4], [23, 24], [5, 6, 7], [19, 20, 21, 22], [21], [19, 21, 22], [23, 24, 25], [23, 24, 25, 26], [18, 19], [27, 28, 29, 15, 16, 17, 18, 20], [26, 27, 28, 29, 30], [30, 31], [0, 1, 2, 3, 4, 5, 6], [20, 21, 22, 23, 24, 25, 26], [15, 16, 17, 18, 19], [18, 19, 20, 21, 22, 23, 24, 25, 26, 27, 28, 29, 30, 31], [0, 1, 2, 3, 4, 5, 6, 7, 8, 9, 10]] rfl (by decide +kernel)
set_option maxRecDepth 20000 in
theorem gL_law_X11_bestOdds : GoodIn wsL_law (wsV RL 95 RX11 yX11_bestOdds wsX11_bestOdds) := goodIn_app (goodIn_of _ (by decide +kernel)) ggL_law_X11_bestOdds
set_option maxRecDepth 100000 in
theorem ggL_law_X11_count : GoodIn wsL_law wsX11_count := goodIn_q _ [1216, 0, 384, 128, 768, 928, 96, 32, 1152, 960, 32, 960, 1216, 1248, 1280] [[15], [16], [25], [4], [20], [26], [23], [2], [7], [29, 30], [1], [31, 19], [20, 21, 22, 23, 24, 25, 26], [18, 19, 20, 21, 22, 23, 24, 25, 26, 27, 28, 29, 30, 31], [20, 21, 22]] rfl (by decide +kernel)
set_option maxRecDepth 20000 in
theorem gL_law_X11_count : GoodIn wsL_law (wsV RL 140 RX11 yX11_count wsX11_count) := goodIn_app (goodIn_of _ (by decide +kernel)) ggL_law_X11_count
set_option maxRecDepth 100000 in
theorem ggL_law_X11_edges : GoodIn wsL_law wsX11_edges := goodIn_q _ [352, 0, 352, 1216, 1248] [[11, 12], [16], [13, 14, 15, 16, 17, 18, 19, 20], [20, 21, 22, 23, 24, 25, 26], [18, 19, 20, 21, 22, 23, 24, 25, 26, 27, 28, 29, 30, 31]] rfl (by decide +kernel)
set_option maxRecDepth 20000 in
theorem gL_law_X11_edges : GoodIn wsL_law (wsV RL 25 RX11 yX11_edges wsX11_edges) := goodIn_app (goodIn_of _ (by decide +kernel)) ggL_law_X11_edges
set_option maxRecDepth 100000 in
theorem ggL_law_X11_hill : GoodIn wsL_law wsX11_hill := goodIn_q _ [128, 0, 128, 0, 96, 128, 0, 128, 32, 128, 32, 128, 160, 192, 224, 32, 224, 256, 288, 32, 0, 32, 1216, 1248, 1280] [[3], [16], [4], [22], [24, 23], [5], [19, 20, 21], [6, 7, 8, 9, 10, 11, 12, 13], [20, 21, 22], [14], [23], [15, 16, 17, 18, 19, 20, 21, 22, 23, 24, 25, 26, 27, 28, 29, 30, 31], [0, 1, 2, 3, 4, 5, 6, 7, 8, 9, 10, 11, 12, 13, 14, 15, 16, 17, 18, 19, 20, 21, 22, 23, 24, 25, 26, 27, 28, 29, 30, 31], [0, 1, 2, 3, 4, 5, 6, 7, 8, 9, 10, 11, 12, 13, 14, 15, 16, 17, 18, 19, 20, 21, 22, 23, 24, 25, 26, 27, 28, 29, 30, 31], [0, 1, 2, 3, 4, 5, 6, 7, 8, 9], [24], [10, 11, 12, 13, 14, 15, 16, 17, 18, 19, 20, 21, 22, 23, 24, 25, 26, 27, 28, 29, 30, 31], [0, 1, 2, 3, 4, 5, 6, 7, 8, 9, 10, 11, 12, 13, 14, 15, 16, 17, 18, 19, 20, 21, 22, 23, 24, 25, 26, 27, 28, 29, 30, 31], [0, 1, 2, 3, 4, 5, 6, 7, 8, 9, 10, 11, 12], [25, 17, 18, 19], [11, 12], [7], [20, 21, 22, 23, 24, 25, 26], [18, 19, 20, 21, 22, 23, 24, 25, 26, 27, 28, 29, 30, 31], [0, 1, 2, 3, 4, 5, 6, 7, 8, 9, 10]] rfl (by decide +kernel)
set_option maxRecDepth 20000 in
theorem gL_law_X11_hill : GoodIn wsL_law (wsV RL 18 RX11 yX11_hill wsX11_hill) := goodIn_app (goodIn_of _ (by decide +kernel)) ggL_law_X11_hill
set_option maxRecDepth 100000 in
theorem ggL_law_X11_looked : GoodIn wsL_law wsX11_looked := goodIn_q _ [960, 0, 384, 928, 608, 0, 608, 576, 608, 32, 576, 608, 576, 32, 576, 480, 0, 480, 416, 32, 480, 32, 480, 0, 480, 0, 512, 128, 32, 512, 32, 512, 64, 512, 128, 512, 416, 512, 416, 512, 416, 512, 544, 256, 544, 416, 544, 608, 640, 576, 640, 416, 640, 416, 640, 960, 704, 1216, 1248, 1280, 1312, 1280] [[3], [26, 16], [2], [26, 27], [25, 26, 27], [25], [28], [4], [29], [31], [5], [30], [1, 2, 3], [30], [6], [14, 15], [15], [16, 17, 18], [3], [10], [19], [15], [20, 21, 22, 23, 24, 25], [2], [26, 27, 28, 29, 30, 31], [21], [0], [15], [21, 22], [1, 2, 3, 4], [23, 24], [5, 6, 7, 8, 9, 10, 11], [2], [12, 13], [21, 22, 23], [14, 15, 16, 17, 18], [9], [19, 20, 21, 22, 23, 24, 25], [12], [26, 27, 28, 29, 30], [24], [31], [0], [1, 2], [1, 2], [21], [3, 4, 5, 6, 7, 8, 9], [31], [0, 1, 2, 3], [11, 12, 13, 14, 15, 16, 17, 18, 19], [4, 5, 6, 7, 8], [15], [9, 10, 11, 12, 13, 14, 15, 16, 17, 18, 19], [18], [20, 21, 22, 23, 24, 25, 26, 27], [4], [15, 16, 17], [20, 21, 22, 23, 24, 25, 26], [18, 19, 20, 21, 22, 23, 24, 25, 26, 27, 28, 29, 30, 31], [11, 12, 13, 14, 27, 28, 29, 30, 23, 24, 25, 26, 31], [0, 1, 2, 3, 4, 5, 6, 7, 8, 9, 10, 11, 12, 13, 14, 15, 16, 17, 18], [0, 1, 2, 3, 4, 5, 6, 7, 8, 9, 10]] rfl (by decide +kernel)
set_option maxRecDepth 20000 in
theorem gL_law_X11_looked : GoodIn wsL_law (wsV RL 116 RX11 yX11_looked wsX11_looked) := goodIn_app (goodIn_of _ (by decide +kernel)) ggL_law_X11_looked
set_option maxRecDepth 100000 in
theorem ggL_law_X11_of : GoodIn wsL_law wsX11_of := goodIn_q _ [480, 0, 480, 384, 480, 0, 480, 416, 32, 480, 416, 32, 480, 32, 480, 0, 480, 0, 512, 128, 32, 512, 32, 512, 64, 512, 128, 512, 416, 512, 416, 512, 416, 512, 544, 256, 544, 416, 544, 1216, 1280, 1312, 1248, 1280] [[5], [16], [6, 7, 8], [2], [9, 10, 11], [15], [12], [2], [12], [13, 14, 15, 16, 17, 18], [3], [10], [19], [15], [20, 21, 22, 23, 24, 25], [2], [26, 27, 28, 29, 30, 31], [21], [0], [15], [21, 22], [1, 2, 3, 4], [23, 24], [5, 6, 7, 8, 9, 10, 11], [2], [12, 13], [21, 22, 23], [14, 15, 16, 17, 18], [9], [19, 20, 21, 22, 23, 24, 25], [12], [26, 27, 28, 29, 30], [24], [31], [0], [1, 2], [1, 2], [21], [3, 4, 5, 6, 7, 8, 9], [20, 21, 22, 23, 24, 25, 26], [27, 28, 29, 30, 23, 24, 25, 26, 31], [0, 1, 2, 3, 4, 5, 6, 7, 8, 9, 10, 11, 12, 13, 14, 15, 16, 17, 18], [18, 19, 20, 21, 22, 23, 24, 25, 26, 27, 28, 29, 30, 31], [0, 1, 2, 3, 4, 5, 6, 7, 8, 9, 10]] rfl (by decide +kernel)
set_option maxRecDepth 20000 in
theorem gL_law_X11_of : GoodIn wsL_law (wsV RL 44 RX11 yX11_of wsX11_of) := goodIn_app (goodIn_of _ (by decide +kernel)) ggL_law_X11_of
set_option maxRecDepth 100000 in
theorem ggL_law_X11_set : GoodIn wsL_law wsX11_set := goodIn_q _ [384, 0, 384, 0, 384, 128, 384, 352, 1216, 1248, 1280] [[0], [16], [1, 2, 3, 4, 5], [2], [6], [5], [7], [13, 14, 15, 16, 17, 18, 19, 20], [20, 21, 22, 23, 24, 25, 26], [18, 19, 20, 21, 22, 23, 24, 25, 26, 27, 28, 29, 30, 31], [0, 1, 2, 3, 4, 5, 6, 7, 8, 9, 10]] rfl (by decide +kernel)
set_option maxRecDepth 20000 in
theorem gL_law_X11_set : GoodIn wsL_law (wsV RL 30 RX11 yX11_set wsX11_set) := goodIn_app (goodIn_of _ (by decide +kernel)) ggL_law_X11_set
set_option maxRecDepth 100000 in
theorem ggL_law_X11_trace : GoodIn wsL_law wsX11_trace := goodIn_q _ [1152, 32, 1152, 960, 32, 960, 1152, 160, 1152, 64, 1152, 992, 1152, 992, 1216, 1280, 1312] [[5], [2], [6, 7], [29, 30], [1], [31, 19], [8, 9, 10, 11, 12, 13, 14, 15, 16], [28, 29, 30], [17, 18, 19, 20], [26], [21, 22, 23], [2], [24], [11], [20, 21, 22, 23, 24, 25, 26], [20, 21, 22], [19]] rfl (by decide +kernel)
set_option maxRecDepth 20000 in
theorem gL_law_X11_trace : GoodIn wsL_law (wsV RL 124 RX11 yX11_trace wsX11_trace) := goodIn_app (goodIn_of _ (by decide +kernel)) ggL_law_X11_trace
set_option maxRecDepth 100000 in
theorem ggL_law_X11_walk : GoodIn wsL_law wsX11_walk := goodIn_q _ [768, 0, 768, 1216, 1248] [[19], [16], [20, 21], [20, 21, 22, 23, 24, 25, 26], [18, 19, 20, 21, 22, 23, 24, 25, 26, 27, 28, 29, 30, 31]] rfl (by decide +kernel)
set_option maxRecDepth 20000 in
theorem gL_law_X11_walk : GoodIn wsL_law (wsV RL 81 RX11 yX11_walk wsX11_walk) := goodIn_app (goodIn_of _ (by decide +kernel)) ggL_law_X11_walk
set_option maxRecDepth 100000 in
theorem ggL_law_X12_as : GoodIn wsL_law wsX12_as := goodIn_q _ [1184, 96, 544, 0, 544, 96, 1120, 1216, 1248] [[16], [9], [14, 15, 16], [5], [17], [29, 30, 31], [7, 8, 9], [27, 28, 29, 30, 31], [0, 1, 2, 3, 4, 5, 6, 7, 8, 9, 10, 11, 12, 13, 14, 15, 16, 17]] rfl (by decide +kernel)
set_option maxRecDepth 20000 in
theorem gL_law_X12_as : GoodIn wsL_law (wsV RL 131 RX12 yX12_as wsX12_as) := goodIn_app (goodIn_of _ (by decide +kernel)) ggL_law_X12_as
set_option maxRecDepth 100000 in
theorem ggL_law_X12_bestOdds : GoodIn wsL_law wsX12_bestOdds := goodIn_q _ [896, 608, 896, 448, 0, 448, 96, 896, 96, 832, 96, 768, 544, 96, 544, 96, 896, 832, 96, 832, 672, 832, 864, 1216, 1248] [[27], [15], [11], [23, 24], [5], [25], [29, 30, 31], [7, 8, 9, 10], [15], [11, 12, 13, 14], [17], [12, 13, 14, 15], [27, 23, 24, 25, 26], [11, 9], [22], [13], [12, 13, 14, 15], [15, 16, 17, 18, 19, 20, 21, 22], [16], [23, 24, 25, 26], [20, 21, 22, 26, 27, 28], [31], [0, 1, 2, 3, 4, 5, 6, 7, 8], [27, 28, 29, 30, 31], [0, 1, 2, 3, 4, 5, 6, 7, 8, 9, 10, 11, 12, 13, 14, 15, 16, 17]] rfl (by decide +kernel)
set_option maxRecDepth 20000 in
theorem gL_law_X12_bestOdds : GoodIn wsL_law (wsV RL 99 RX12 yX12_bestOdds wsX12_bestOdds) := goodIn_app (goodIn_of _ (by decide +kernel)) ggL_law_X12_bestOdds
set_option maxRecDepth 100000 in
theorem ggL_law_X12_count : GoodIn wsL_law wsX12_count := goodIn_q _ [1216, 96, 1088, 1216, 1248] [[19], [9], [31], [27, 28, 29, 30, 31], [0, 1, 2, 3, 4, 5, 6, 7, 8, 9, 10, 11, 12, 13, 14, 15, 16, 17]] rfl (by decide +kernel)
set_option maxRecDepth 20000 in
theorem gL_law_X12_count : GoodIn wsL_law (wsV RL 143 RX12 yX12_count wsX12_count) := goodIn_app (goodIn_of _ (by decide +kernel)) ggL_law_X12_count
set_option maxRecDepth 100000 in
theorem ggL_law_X12_edges : GoodIn wsL_law wsX12_edges := goodIn_q _ [352, 96, 352, 0, 352, 1216, 1248] [[24], [9], [25, 26, 27], [5], [28], [27, 28, 29, 30, 31], [0, 1, 2, 3, 4, 5, 6, 7, 8, 9, 10, 11, 12, 13, 14, 15, 16, 17]] rfl (by decide +kernel)
set_option maxRecDepth 20000 in
theorem gL_law_X12_edges : GoodIn wsL_law (wsV RL 29 RX12 yX12_edges wsX12_edges) := goodIn_app (goodIn_of _ (by decide +kernel)) ggL_law_X12_edges
set_option maxRecDepth 100000 in
theorem ggL_law_X12_hill : GoodIn wsL_law wsX12_hill := goodIn_q _ [288, 96, 288, 0, 288, 320, 160, 320, 160, 192, 320, 96, 320, 352, 1216, 1248] [[16], [9], [17, 18, 19, 20, 21, 22, 23, 24], [5], [25, 26, 27, 28, 29, 30, 31], [0, 1, 2, 3, 4, 5, 6, 7, 8, 9, 10, 11, 12, 13, 14], [0, 1, 2, 3, 4, 5, 6, 7, 8, 9, 10], [15], [12, 13, 14, 15, 16, 17, 18, 19, 20, 21, 22, 23, 24, 25, 26, 27, 28, 29, 30, 31], [0, 1, 2, 3, 4, 5, 6, 7, 8, 9, 10, 11, 12, 13, 14, 15], [16, 17, 18, 19], [29, 30, 31], [20, 21, 22, 23, 24, 25, 26, 27, 28, 29, 30, 31], [0, 1, 2, 3, 4, 5, 6, 7], [27, 28, 29, 30, 31], [0, 1, 2, 3, 4, 5, 6, 7, 8, 9, 10, 11, 12, 13, 14, 15, 16, 17]] rfl (by decide +kernel)
set_option maxRecDepth 20000 in
theorem gL_law_X12_hill : GoodIn wsL_law (wsV RL 22 RX12 yX12_hill wsX12_hill) := goodIn_app (goodIn_of _ (by decide +kernel)) ggL_law_X12_hill
set_option maxRecDepth 100000 in
theorem ggL_law_X12_looked : GoodIn wsL_law wsX12_looked := goodIn_q _ [960, 96, 672, 0, 672, 576, 608, 544, 96, 544, 96, 384, 672, 96, 1216, 1248] [[8], [9], [16, 17, 18], [5], [19], [28, 29, 30, 31], [0, 1, 2, 3, 4, 5], [18, 19, 20, 21, 22, 23, 24, 25, 26], [11], [27], [13], [17, 18, 19, 20], [20, 21, 22, 23, 24, 25, 26, 27, 28], [29, 30, 31], [27, 28, 29, 30, 31], [0, 1, 2, 3, 4, 5, 6, 7, 8, 9, 10, 11, 12, 13, 14, 15, 16, 17]] rfl (by decide +kernel)
set_option maxRecDepth 20000 in
theorem gL_law_X12_looked : GoodIn wsL_law (wsV RL 119 RX12 yX12_looked wsX12_looked) := goodIn_app (goodIn_of _ (by decide +kernel)) ggL_law_X12_looked
set_option maxRecDepth 100000 in
theorem ggL_law_X12_of : GoodIn wsL_law wsX12_of := goodIn_q _ [544, 96, 544, 0, 544, 96, 544, 96, 544, 96, 384, 1216, 1248] [[13], [9], [14, 15, 16], [5], [17], [29, 30, 31], [18, 19, 20, 21, 22, 23, 24, 25, 26], [11], [27], [13], [17, 18, 19, 20], [27, 28, 29, 30, 31], [0, 1, 2, 3, 4, 5, 6, 7, 8, 9, 10, 11, 12, 13, 14, 15, 16, 17]] rfl (by decide +kernel)
set_option maxRecDepth 20000 in
theorem gL_law_X12_of : GoodIn wsL_law (wsV RL 47 RX12 yX12_of wsX12_of) := goodIn_app (goodIn_of _ (by decide +kernel)) ggL_law_X12_of
set_option maxRecDepth 100000 in
theorem ggL_law_X12_set : GoodIn wsL_law wsX12_set := goodIn_q _ [384, 96, 0, 96, 1216, 1248] [[11], [9, 29, 30], [5], [31], [27, 28, 29, 30, 31], [0, 1, 2, 3, 4, 5, 6, 7, 8, 9, 10, 11, 12, 13, 14, 15, 16, 17]] rfl (by decide +kernel)
set_option maxRecDepth 20000 in
theorem gL_law_X12_set : GoodIn wsL_law (wsV RL 34 RX12 yX12_set wsX12_set) := goodIn_app (goodIn_of _ (by decide +kernel)) ggL_law_X12_set
set_option maxRecDepth 100000 in
theorem ggL_law_X12_trace : GoodIn wsL_law wsX12_trace := goodIn_q _ [1152, 1088, 96, 0, 96, 1216, 1248] [[28], [31], [18, 29, 30], [5], [31], [27, 28, 29, 30, 31], [0, 1, 2, 3, 4, 5, 6, 7, 8, 9, 10, 11, 12, 13, 14, 15, 16, 17]] rfl (by decide +kernel)
set_option maxRecDepth 20000 in
theorem gL_law_X12_trace : GoodIn wsL_law (wsV RL 127 RX12 yX12_trace wsX12_trace) := goodIn_app (goodIn_of _ (by decide +kernel)) ggL_law_X12_trace
set_option maxRecDepth 100000 in
theorem ggL_law_X12_walk : GoodIn wsL_law wsX12_walk := goodIn_q _ [768, 96, 0, 96, 1216, 1248] [[25], [9, 29, 30], [5], [31], [27, 28, 29, 30, 31], [0, 1, 2, 3, 4, 5, 6, 7, 8, 9, 10, 11, 12, 13, 14, 15, 16, 17]] rfl (by decide +kernel)
set_option maxRecDepth 20000 in
theorem gL_law_X12_walk : GoodIn wsL_law (wsV RL 84 RX12 yX12_walk wsX12_walk) := goodIn_app (goodIn_of _ (by decide +kernel)) ggL_law_X12_walk
set_option maxRecDepth 100000 in
theorem ggL_law_X11_init : GoodIn wsL_law wsX11_init := goodIn_q _ [0, 32, 64, 96, 1248, 1216, 1280, 1312] [[9, 10, 11, 12, 13, 14, 15, 16, 17, 18, 19, 20, 21, 22, 23, 24, 25, 26, 27, 28, 29, 30, 31], [0, 1, 2, 3, 4, 5, 6, 7, 8, 9, 10, 11, 12, 13, 14, 15, 16, 17, 18, 19, 20, 21, 22, 23, 24, 25, 26, 27, 28, 29, 30, 31], [0, 1, 2, 3, 4, 5, 6, 7, 8, 9, 10, 11, 12, 13, 14, 15, 16, 17, 18, 19, 20, 21, 22, 23, 24, 25, 26, 27, 28, 29, 30, 31], [0, 1, 2, 3, 4], [18, 19, 20, 21, 22, 23, 24, 25, 26, 27, 28, 29, 30, 31], [20, 21, 22, 23, 24, 25, 26], [0, 1, 2, 3, 4, 5, 6, 7, 8, 9, 10, 11, 12, 13, 14, 15, 16, 17, 18, 19, 20, 21, 22, 23, 24, 25, 26, 27, 28, 29, 30, 31], [0, 1, 2, 3, 4, 5, 6, 7, 8, 9, 10, 11, 12, 13, 14, 15, 16, 17, 18]] rfl (by decide +kernel)
/- gL_law_X11_as gL_law_X11_bestOdds gL_law_X11_count gL_law_X11_edges gL_law_X11_hill gL_law_X11_looked gL_law_X11_of gL_law_X11_set gL_law_X11_trace gL_law_X11_walk gL_law_X12_as gL_law_X12_bestOdds gL_law_X12_count gL_law_X12_edges gL_law_X12_hill gL_law_X12_looked gL_law_X12_of gL_law_X12_set gL_law_X12_trace gL_law_X12_walk ggL_law_X11_init -/