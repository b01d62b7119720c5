theorem gL_law_X4_digest : GoodIn wsL_law (wsV RL 199 RX4 yX4_digest wsX4_digest) := goodIn_app (goodIn_of _ (by decide +kernel)) ggL_law_X4_digest
theorem gL_law_X5_digest : GoodIn wsL_law (wsV RL 203 RX5 yX5_digest wsX5_digest) := goodIn_app (goodIn_of _ (by decide +kernel)) ggL_law_X5_digest

