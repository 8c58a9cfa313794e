set_option maxRecDepth 20000 in
theorem gL_law_X9_frame : GoodIn wsL_law (wsV RL 281 RX9 yX9_frame wsX9_frame) := goodIn_app (goodIn_of _ (by decide +kernel)) ggL_law_X9_frame
set_option maxRecDepth 20000 in
theorem ggL_law_X9_frames : GoodIn wsL_law wsX9_frames := goodIn_r _ [1247, 685, 1482, 1483, 1484, 1485, 1486, 1487, 1488, 1489, 1490, 1491, 1492, 1493, 1494] (by decide +kernel) (by decide +kernel)
set_option maxRecDepth 20000 in
theorem gL_law_X9_frames : GoodIn wsL_law (wsV RL 285 RX9 yX9_frames wsX9_frames) := goodIn_app (goodIn_of _ (by decide +kernel)) ggL_law_X9_frames
set_option maxRecDepth 20000 in
theorem ggL_law_X14_frames : GoodIn wsL_law wsX14_frames := goodIn_r _ [1251, 239, 690, 1495, 1496, 1497, 1498, 1499, 1500, 1501, 1502, 1503, 1504, 1505, 1506, 1507, 1508, 1509, 1510, 1511, 1512, 1513] (by decide +kernel) (by decide +kernel)
set_option maxRecDepth 20000 in
theorem gL_law_X14_frames : GoodIn wsL_law (wsV RL 288 RX14 yX14_frames wsX14_frames) := goodIn_app (goodIn_of _ (by decide +kernel)) ggL_law_X14_frames


