set_option maxRecDepth 20000 in
theorem gL_law_X14_fault : GoodIn wsL_law (wsV RL 280 RX14 yX14_fault wsX14_fault) := goodIn_app (goodIn_of _ (by decide +kernel)) ggL_law_X14_fault
