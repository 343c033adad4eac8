theorem ggL_law_X11_act : GoodIn lw_tbl wsX11_act := gla_of 914 rfl rfl rfl
set_option maxRecDepth 100000 in
theorem gL_law_X11_act : GoodIn lw_tbl (wsV RL 120 RX11 yX11_act wsX11_act) := goodIn_app (tb_good [911, 912, 913, 63] rfl rfl rfl) ggL_law_X11_act
theorem ggL_law_X11_best : GoodIn lw_tbl wsX11_best := gla_of 863 rfl rfl rfl
set_option maxRecDepth 100000 in
theorem gL_law_X11_best : GoodIn lw_tbl (wsV RL 90 RX11 yX11_best wsX11_best) := goodIn_app (tb_good [860, 861, 862, 63] rfl rfl rfl) ggL_law_X11_best
theorem ggL_law_X11_build : GoodIn lw_tbl wsX11_build := gla_of 790 rfl rfl rfl
set_option maxRecDepth 100000 in
theorem gL_law_X11_build : GoodIn lw_tbl (wsV RL 73 RX11 yX11_build wsX11_build) := goodIn_app (tb_good [787, 788, 789, 63] rfl rfl rfl) ggL_law_X11_build
theorem ggL_law_X11_drift : GoodIn lw_tbl wsX11_drift := gla_of 805 rfl rfl rfl
set_option maxRecDepth 100000 in
theorem gL_law_X11_drift : GoodIn lw_tbl (wsV RL 77 RX11 yX11_drift wsX11_drift) := goodIn_app (tb_good [802, 803, 804, 63] rfl rfl rfl) ggL_law_X11_drift
theorem ggL_law_X11_heap : GoodIn lw_tbl wsX11_heap := gla_of 546 rfl rfl rfl
set_option maxRecDepth 100000 in
theorem gL_law_X11_heap : GoodIn lw_tbl (wsV RL 39 RX11 yX11_heap wsX11_heap) := goodIn_app (tb_good [543, 544, 545, 63] rfl rfl rfl) ggL_law_X11_heap
theorem ggL_law_X11_line : GoodIn lw_tbl wsX11_line := gla_of 896 rfl rfl rfl
set_option maxRecDepth 100000 in
theorem gL_law_X11_line : GoodIn lw_tbl (wsV RL 104 RX11 yX11_line wsX11_line) := goodIn_app (tb_good [893, 894, 895, 63] rfl rfl rfl) ggL_law_X11_line
theorem ggL_law_X11_odds : GoodIn lw_tbl wsX11_odds := gla_of 818 rfl rfl rfl
set_option maxRecDepth 100000 in
theorem gL_law_X11_odds : GoodIn lw_tbl (wsV RL 85 RX11 yX11_odds wsX11_odds) := goodIn_app (tb_good [815, 816, 817, 63] rfl rfl rfl) ggL_law_X11_odds
theorem ggL_law_X11_sees : GoodIn lw_tbl wsX11_sees := gla_of 688 rfl rfl rfl
set_option maxRecDepth 100000 in
theorem gL_law_X11_sees : GoodIn lw_tbl (wsV RL 48 RX11 yX11_sees wsX11_sees) := goodIn_app (tb_good [685, 686, 687, 63] rfl rfl rfl) ggL_law_X11_sees
theorem ggL_law_X11_told : GoodIn lw_tbl wsX11_told := gla_of 541 rfl rfl rfl
set_option maxRecDepth 100000 in
theorem gL_law_X11_told : GoodIn lw_tbl (wsV RL 35 RX11 yX11_told wsX11_told) := goodIn_app (tb_good [542, 539, 540, 63] rfl rfl rfl) ggL_law_X11_told
theorem ggL_law_X11_via : GoodIn lw_tbl wsX11_via := gla_of 765 rfl rfl rfl
set_option maxRecDepth 100000 in
theorem gL_law_X11_via : GoodIn lw_tbl (wsV RL 61 RX11 yX11_via wsX11_via) := goodIn_app (tb_good [762, 763, 764, 63] rfl rfl rfl) ggL_law_X11_via
theorem ggL_law_X12_act : GoodIn lw_tbl wsX12_act := gla_of 1489 rfl rfl rfl
set_option maxRecDepth 100000 in
theorem gL_law_X12_act : GoodIn lw_tbl (wsV RL 123 RX12 yX12_act wsX12_act) := goodIn_app (tb_good [1486, 1487, 1488, 72] rfl rfl rfl) ggL_law_X12_act
theorem ggL_law_X12_best : GoodIn lw_tbl wsX12_best := gla_of 1450 rfl rfl rfl
set_option maxRecDepth 100000 in
theorem gL_law_X12_best : GoodIn lw_tbl (wsV RL 94 RX12 yX12_best wsX12_best) := goodIn_app (tb_good [1447, 1448, 1449, 72] rfl rfl rfl) ggL_law_X12_best
theorem ggL_law_X12_build : GoodIn lw_tbl wsX12_build := gla_of 1400 rfl rfl rfl
set_option maxRecDepth 100000 in
theorem gL_law_X12_build : GoodIn lw_tbl (wsV RL 76 RX12 yX12_build wsX12_build) := goodIn_app (tb_good [1397, 1398, 1399, 72] rfl rfl rfl) ggL_law_X12_build
theorem ggL_law_X12_drift : GoodIn lw_tbl wsX12_drift := gla_of 1404 rfl rfl rfl
set_option maxRecDepth 100000 in
theorem gL_law_X12_drift : GoodIn lw_tbl (wsV RL 80 RX12 yX12_drift wsX12_drift) := goodIn_app (tb_good [1401, 1402, 1403, 72] rfl rfl rfl) ggL_law_X12_drift
theorem ggL_law_X12_heap : GoodIn lw_tbl wsX12_heap := gla_of 1301 rfl rfl rfl
set_option maxRecDepth 100000 in
theorem gL_law_X12_heap : GoodIn lw_tbl (wsV RL 43 RX12 yX12_heap wsX12_heap) := goodIn_app (tb_good [1298, 1299, 1300, 72] rfl rfl rfl) ggL_law_X12_heap
theorem ggL_law_X12_line : GoodIn lw_tbl wsX12_line := gla_of 1473 rfl rfl rfl
set_option maxRecDepth 100000 in
theorem gL_law_X12_line : GoodIn lw_tbl (wsV RL 107 RX12 yX12_line wsX12_line) := goodIn_app (tb_good [1470, 1471, 1472, 72] rfl rfl rfl) ggL_law_X12_line
theorem ggL_law_X12_odds : GoodIn lw_tbl wsX12_odds := gla_of 1416 rfl rfl rfl
set_option maxRecDepth 100000 in
theorem gL_law_X12_odds : GoodIn lw_tbl (wsV RL 89 RX12 yX12_odds wsX12_odds) := goodIn_app (tb_good [1413, 1414, 1415, 72] rfl rfl rfl) ggL_law_X12_odds
theorem ggL_law_X12_sees : GoodIn lw_tbl wsX12_sees := gla_of 1332 rfl rfl rfl
set_option maxRecDepth 100000 in
theorem gL_law_X12_sees : GoodIn lw_tbl (wsV RL 51 RX12 yX12_sees wsX12_sees) := goodIn_app (tb_good [1329, 1330, 1331, 72] rfl rfl rfl) ggL_law_X12_sees
theorem ggL_law_X12_told : GoodIn lw_tbl wsX12_told := gla_of 1293 rfl rfl rfl
set_option maxRecDepth 100000 in
theorem gL_law_X12_told : GoodIn lw_tbl (wsV RL 38 RX12 yX12_told wsX12_told) := goodIn_app (tb_good [1290, 1291, 1292, 72] rfl rfl rfl) ggL_law_X12_told
theorem ggL_law_X12_via : GoodIn lw_tbl wsX12_via := gla_of 1388 rfl rfl rfl
set_option maxRecDepth 100000 in
theorem gL_law_X12_via : GoodIn lw_tbl (wsV RL 64 RX12 yX12_via wsX12_via) := goodIn_app (tb_good [1385, 1386, 1387, 72] rfl rfl rfl) ggL_law_X12_via
theorem ggL_law_X12_init : GoodIn lw_tbl wsX12_init := gla_of 1139 rfl rfl rfl
theorem ggL_law_X11_as : GoodIn lw_tbl wsX11_as := gla_of 1104 rfl rfl rfl
set_option maxRecDepth 100000 in
theorem gL_law_X11_as : GoodIn lw_tbl (wsV RL 128 RX11 yX11_as wsX11_as) := goodIn_app (tb_good [1101, 1102, 1103, 63] rfl rfl rfl) ggL_law_X11_as
theorem ggL_law_X11_bestOdds : GoodIn lw_tbl wsX11_bestOdds := gla_of 887 rfl rfl rfl
set_option maxRecDepth 100000 in
theorem gL_law_X11_bestOdds : GoodIn lw_tbl (wsV RL 95 RX11 yX11_bestOdds wsX11_bestOdds) := goodIn_app (tb_good [884, 885, 886, 63] rfl rfl rfl) ggL_law_X11_bestOdds
theorem ggL_law_X11_count : GoodIn lw_tbl wsX11_count := gla_of 1134 rfl rfl rfl
set_option maxRecDepth 100000 in
theorem gL_law_X11_count : GoodIn lw_tbl (wsV RL 140 RX11 yX11_count wsX11_count) := goodIn_app (tb_good [1131, 1132, 1133, 63] rfl rfl rfl) ggL_law_X11_count
theorem ggL_law_X11_edges : GoodIn lw_tbl wsX11_edges := gla_of 526 rfl rfl rfl
set_option maxRecDepth 100000 in
theorem gL_law_X11_edges : GoodIn lw_tbl (wsV RL 25 RX11 yX11_edges wsX11_edges) := goodIn_app (tb_good [523, 524, 525, 63] rfl rfl rfl) ggL_law_X11_edges
theorem ggL_law_X11_hill : GoodIn lw_tbl wsX11_hill := gla_of 357 rfl rfl rfl
set_option maxRecDepth 100000 in
theorem gL_law_X11_hill : GoodIn lw_tbl (wsV RL 18 RX11 yX11_hill wsX11_hill) := goodIn_app (tb_good [354, 355, 356, 63] rfl rfl rfl) ggL_law_X11_hill
theorem ggL_law_X11_looked : GoodIn lw_tbl wsX11_looked := gla_of 909 rfl rfl rfl
set_option maxRecDepth 100000 in
theorem gL_law_X11_looked : GoodIn lw_tbl (wsV RL 116 RX11 yX11_looked wsX11_looked) := goodIn_app (tb_good [906, 907, 908, 63] rfl rfl rfl) ggL_law_X11_looked
theorem ggL_law_X11_of : GoodIn lw_tbl wsX11_of := gla_of 628 rfl rfl rfl
set_option maxRecDepth 100000 in
theorem gL_law_X11_of : GoodIn lw_tbl (wsV RL 44 RX11 yX11_of wsX11_of) := goodIn_app (tb_good [625, 626, 627, 63] rfl rfl rfl) ggL_law_X11_of
theorem ggL_law_X11_set : GoodIn lw_tbl wsX11_set := gla_of 537 rfl rfl rfl
set_option maxRecDepth 100000 in
theorem gL_law_X11_set : GoodIn lw_tbl (wsV RL 30 RX11 yX11_set wsX11_set) := goodIn_app (tb_good [534, 535, 536, 63] rfl rfl rfl) ggL_law_X11_set
theorem ggL_law_X11_trace : GoodIn lw_tbl wsX11_trace := gla_of 1082 rfl rfl rfl
set_option maxRecDepth 100000 in
theorem gL_law_X11_trace : GoodIn lw_tbl (wsV RL 124 RX11 yX11_trace wsX11_trace) := goodIn_app (tb_good [1079, 1080, 1081, 63] rfl rfl rfl) ggL_law_X11_trace
theorem ggL_law_X11_walk : GoodIn lw_tbl wsX11_walk := gla_of 814 rfl rfl rfl
set_option maxRecDepth 100000 in
theorem gL_law_X11_walk : GoodIn lw_tbl (wsV RL 81 RX11 yX11_walk wsX11_walk) := goodIn_app (tb_good [811, 812, 813, 63] rfl rfl rfl) ggL_law_X11_walk
theorem ggL_law_X12_as : GoodIn lw_tbl wsX12_as := gla_of 1528 rfl rfl rfl
set_option maxRecDepth 100000 in
theorem gL_law_X12_as : GoodIn lw_tbl (wsV RL 131 RX12 yX12_as wsX12_as) := goodIn_app (tb_good [1525, 1526, 1527, 72] rfl rfl rfl) ggL_law_X12_as
theorem ggL_law_X12_bestOdds : GoodIn lw_tbl wsX12_bestOdds := gla_of 1465 rfl rfl rfl
set_option maxRecDepth 100000 in
theorem gL_law_X12_bestOdds : GoodIn lw_tbl (wsV RL 99 RX12 yX12_bestOdds wsX12_bestOdds) := goodIn_app (tb_good [1462, 1463, 1464, 72] rfl rfl rfl) ggL_law_X12_bestOdds
theorem ggL_law_X12_count : GoodIn lw_tbl wsX12_count := gla_of 1540 rfl rfl rfl
set_option maxRecDepth 100000 in
theorem gL_law_X12_count : GoodIn lw_tbl (wsV RL 143 RX12 yX12_count wsX12_count) := goodIn_app (tb_good [1537, 1538, 1539, 72] rfl rfl rfl) ggL_law_X12_count
theorem ggL_law_X12_edges : GoodIn lw_tbl wsX12_edges := gla_of 1281 rfl rfl rfl
set_option maxRecDepth 100000 in
theorem gL_law_X12_edges : GoodIn lw_tbl (wsV RL 29 RX12 yX12_edges wsX12_edges) := goodIn_app (tb_good [1278, 1279, 1280, 72] rfl rfl rfl) ggL_law_X12_edges
theorem ggL_law_X12_hill : GoodIn lw_tbl wsX12_hill := gla_of 1221 rfl rfl rfl
set_option maxRecDepth 100000 in
theorem gL_law_X12_hill : GoodIn lw_tbl (wsV RL 22 RX12 yX12_hill wsX12_hill) := goodIn_app (tb_good [1218, 1219, 1220, 72] rfl rfl rfl) ggL_law_X12_hill
theorem ggL_law_X12_looked : GoodIn lw_tbl wsX12_looked := gla_of 1485 rfl rfl rfl
set_option maxRecDepth 100000 in
theorem gL_law_X12_looked : GoodIn lw_tbl (wsV RL 119 RX12 yX12_looked wsX12_looked) := goodIn_app (tb_good [1482, 1483, 1484, 72] rfl rfl rfl) ggL_law_X12_looked
theorem ggL_law_X12_of : GoodIn lw_tbl wsX12_of := gla_of 1316 rfl rfl rfl
set_option maxRecDepth 100000 in
theorem gL_law_X12_of : GoodIn lw_tbl (wsV RL 47 RX12 yX12_of wsX12_of) := goodIn_app (tb_good [1313, 1314, 1315, 72] rfl rfl rfl) ggL_law_X12_of
theorem ggL_law_X12_set : GoodIn lw_tbl wsX12_set := gla_of 1289 rfl rfl rfl
set_option maxRecDepth 100000 in
theorem gL_law_X12_set : GoodIn lw_tbl (wsV RL 34 RX12 yX12_set wsX12_set) := goodIn_app (tb_good [1286, 1287, 1288, 72] rfl rfl rfl) ggL_law_X12_set
theorem ggL_law_X12_trace : GoodIn lw_tbl wsX12_trace := gla_of 1524 rfl rfl rfl
set_option maxRecDepth 100000 in
theorem gL_law_X12_trace : GoodIn lw_tbl (wsV RL 127 RX12 yX12_trace wsX12_trace) := goodIn_app (tb_good [1521, 1522, 1523, 72] rfl rfl rfl) ggL_law_X12_trace
theorem ggL_law_X12_walk : GoodIn lw_tbl wsX12_walk := gla_of 1412 rfl rfl rfl
set_option maxRecDepth 100000 in
theorem gL_law_X12_walk : GoodIn lw_tbl (wsV RL 84 RX12 yX12_walk wsX12_walk) := goodIn_app (tb_good [1409, 1410, 1411, 72] rfl rfl rfl) ggL_law_X12_walk
theorem ggL_law_X11_init : GoodIn lw_tbl wsX11_init := gla_of 97 rfl rfl rfl
theorem ggL_law_X11_bears : GoodIn lw_tbl wsX11_bears := gla_of 786 rfl rfl rfl
set_option maxRecDepth 100000 in
theorem gL_law_X11_bears : GoodIn lw_tbl (wsV RL 69 RX11 yX11_bears wsX11_bears) := goodIn_app (tb_good [783, 784, 785, 63] rfl rfl rfl) ggL_law_X11_bears
theorem ggL_law_X11_book : GoodIn lw_tbl wsX11_book := gla_of 905 rfl rfl rfl
set_option maxRecDepth 100000 in
theorem gL_law_X11_book : GoodIn lw_tbl (wsV RL 112 RX11 yX11_book wsX11_book) := goodIn_app (tb_good [902, 903, 904, 63] rfl rfl rfl) ggL_law_X11_book
theorem ggL_law_X11_cuts : GoodIn lw_tbl wsX11_cuts := gla_of 778 rfl rfl rfl
set_option maxRecDepth 100000 in
theorem gL_law_X11_cuts : GoodIn lw_tbl (wsV RL 65 RX11 yX11_cuts wsX11_cuts) := goodIn_app (tb_good [775, 776, 777, 63] rfl rfl rfl) ggL_law_X11_cuts
theorem ggL_law_X11_feed : GoodIn lw_tbl wsX11_feed := gla_of 353 rfl rfl rfl
set_option maxRecDepth 100000 in
theorem gL_law_X11_feed : GoodIn lw_tbl (wsV RL 13 RX11 yX11_feed wsX11_feed) := goodIn_app (tb_good [350, 351, 352, 63] rfl rfl rfl) ggL_law_X11_feed
theorem ggL_law_X11_image : GoodIn lw_tbl wsX11_image := gla_of 1121 rfl rfl rfl
set_option maxRecDepth 100000 in
theorem gL_law_X11_image : GoodIn lw_tbl (wsV RL 132 RX11 yX11_image wsX11_image) := goodIn_app (tb_good [1118, 1119, 1120, 63] rfl rfl rfl) ggL_law_X11_image
theorem ggL_law_X11_next : GoodIn lw_tbl wsX11_next := gla_of 901 rfl rfl rfl
set_option maxRecDepth 100000 in
theorem gL_law_X11_next : GoodIn lw_tbl (wsV RL 108 RX11 yX11_next wsX11_next) := goodIn_app (tb_good [898, 899, 900, 63] rfl rfl rfl) ggL_law_X11_next
theorem ggL_law_X11_safe : GoodIn lw_tbl wsX11_safe := gla_of 891 rfl rfl rfl
set_option maxRecDepth 100000 in
theorem gL_law_X11_safe : GoodIn lw_tbl (wsV RL 100 RX11 yX11_safe wsX11_safe) := goodIn_app (tb_good [888, 889, 890, 63] rfl rfl rfl) ggL_law_X11_safe
theorem ggL_law_X11_steps : GoodIn lw_tbl wsX11_steps := gla_of 715 rfl rfl rfl
set_option maxRecDepth 100000 in
theorem gL_law_X11_steps : GoodIn lw_tbl (wsV RL 57 RX11 yX11_steps wsX11_steps) := goodIn_app (tb_good [712, 713, 714, 63] rfl rfl rfl) ggL_law_X11_steps
theorem ggL_law_X11_undo : GoodIn lw_tbl wsX11_undo := gla_of 1130 rfl rfl rfl
set_option maxRecDepth 100000 in
theorem gL_law_X11_undo : GoodIn lw_tbl (wsV RL 136 RX11 yX11_undo wsX11_undo) := goodIn_app (tb_good [1127, 1128, 1129, 63] rfl rfl rfl) ggL_law_X11_undo
theorem ggL_law_X11_where : GoodIn lw_tbl wsX11_where := gla_of 710 rfl rfl rfl
set_option maxRecDepth 100000 in
theorem gL_law_X11_where : GoodIn lw_tbl (wsV RL 52 RX11 yX11_where wsX11_where) := goodIn_app (tb_good [707, 708, 709, 63] rfl rfl rfl) ggL_law_X11_where
theorem ggL_law_X12_bears : GoodIn lw_tbl wsX12_bears := gla_of 1396 rfl rfl rfl
set_option maxRecDepth 100000 in
theorem gL_law_X12_bears : GoodIn lw_tbl (wsV RL 72 RX12 yX12_bears wsX12_bears) := goodIn_app (tb_good [1393, 1394, 1395, 72] rfl rfl rfl) ggL_law_X12_bears
theorem ggL_law_X12_book : GoodIn lw_tbl wsX12_book := gla_of 1481 rfl rfl rfl
set_option maxRecDepth 100000 in
theorem gL_law_X12_book : GoodIn lw_tbl (wsV RL 115 RX12 yX12_book wsX12_book) := goodIn_app (tb_good [1478, 1479, 1480, 72] rfl rfl rfl) ggL_law_X12_book
theorem ggL_law_X12_cuts : GoodIn lw_tbl wsX12_cuts := gla_of 1392 rfl rfl rfl
set_option maxRecDepth 100000 in
theorem gL_law_X12_cuts : GoodIn lw_tbl (wsV RL 68 RX12 yX12_cuts wsX12_cuts) := goodIn_app (tb_good [1389, 1390, 1391, 72] rfl rfl rfl) ggL_law_X12_cuts
theorem ggL_law_X12_feed : GoodIn lw_tbl wsX12_feed := gla_of 1214 rfl rfl rfl
set_option maxRecDepth 100000 in
theorem gL_law_X12_feed : GoodIn lw_tbl (wsV RL 17 RX12 yX12_feed wsX12_feed) := goodIn_app (tb_good [1211, 1212, 1213, 72] rfl rfl rfl) ggL_law_X12_feed
theorem ggL_law_X12_image : GoodIn lw_tbl wsX12_image := gla_of 1532 rfl rfl rfl
set_option maxRecDepth 100000 in
theorem gL_law_X12_image : GoodIn lw_tbl (wsV RL 135 RX12 yX12_image wsX12_image) := goodIn_app (tb_good [1529, 1530, 1531, 72] rfl rfl rfl) ggL_law_X12_image
theorem ggL_law_X12_next : GoodIn lw_tbl wsX12_next := gla_of 1477 rfl rfl rfl
set_option maxRecDepth 100000 in
theorem gL_law_X12_next : GoodIn lw_tbl (wsV RL 111 RX12 yX12_next wsX12_next) := goodIn_app (tb_good [1474, 1475, 1476, 72] rfl rfl rfl) ggL_law_X12_next
theorem ggL_law_X12_safe : GoodIn lw_tbl wsX12_safe := gla_of 1469 rfl rfl rfl
set_option maxRecDepth 100000 in
theorem gL_law_X12_safe : GoodIn lw_tbl (wsV RL 103 RX12 yX12_safe wsX12_safe) := goodIn_app (tb_good [1466, 1467, 1468, 72] rfl rfl rfl) ggL_law_X12_safe
theorem ggL_law_X12_steps : GoodIn lw_tbl wsX12_steps := gla_of 1355 rfl rfl rfl
set_option maxRecDepth 100000 in
theorem gL_law_X12_steps : GoodIn lw_tbl (wsV RL 60 RX12 yX12_steps wsX12_steps) := goodIn_app (tb_good [1352, 1353, 1354, 72] rfl rfl rfl) ggL_law_X12_steps
theorem ggL_law_X12_undo : GoodIn lw_tbl wsX12_undo := gla_of 1536 rfl rfl rfl
set_option maxRecDepth 100000 in
theorem gL_law_X12_undo : GoodIn lw_tbl (wsV RL 139 RX12 yX12_undo wsX12_undo) := goodIn_app (tb_good [1533, 1534, 1535, 72] rfl rfl rfl) ggL_law_X12_undo
theorem ggL_law_X12_where : GoodIn lw_tbl wsX12_where := gla_of 1350 rfl rfl rfl
set_option maxRecDepth 100000 in
theorem gL_law_X12_where : GoodIn lw_tbl (wsV RL 56 RX12 yX12_where wsX12_where) := goodIn_app (tb_good [1347, 1348, 1349, 72] rfl rfl rfl) ggL_law_X12_where
theorem wsL_law_in : ∀ w ∈ lw_tbl, w ∈ lw_tbl := fun _ h => h

