set_option maxRecDepth 20000 in
theorem gL_isSo_L_arePoses : GoodIn wsL_isSo (va_wsS RL 114 yL_arePoses wsL_arePoses) := goodIn_app (goodIn_of _ (by decide +kernel)) ggL_isSo_L_arePoses
