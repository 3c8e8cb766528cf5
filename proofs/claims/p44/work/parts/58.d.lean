set_option maxRecDepth 20000 in
theorem ggL_law_X8_historySize : GoodIn wsL_law wsX8_historySize := goodIn_r _ [248, 18, 249, 497, 498, 499, 500, 501, 502, 503, 504, 505, 506, 513, 514, 515] (by decide +kernel) (by decide +kernel)
set_option maxRecDepth 20000 in
theorem gL_law_X8_historySize : GoodIn wsL_law (wsV RL 50 RX8 yX8_historySize wsX8_historySize) := goodIn_app (goodIn_of _ (by decide +kernel)) ggL_law_X8_historySize
