set_option maxRecDepth 20000 in
theorem gL_acts_L_ends : GoodIn wsL_acts (va_wsS RL 50 yL_ends wsL_ends) := goodIn_app (goodIn_of _ (by decide +kernel)) ggL_acts_L_ends
