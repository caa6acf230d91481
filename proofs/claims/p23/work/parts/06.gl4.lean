set_option maxRecDepth 20000 in
theorem gL_law_X0_note : GoodIn wsL_law (wsV RL 147 RX0 yX0_note wsX0_note) := goodIn_app (goodIn_of _ (by decide +kernel)) ggL_law_X0_note
