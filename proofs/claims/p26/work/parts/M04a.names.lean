set_option maxRecDepth 20000 in
theorem gL_acts_L_shares : GoodIn wsL_acts (va_wsS RL 47 yL_shares wsL_shares) := goodIn_app (goodIn_of _ (by decide +kernel)) ggL_acts_L_shares
