set_option maxRecDepth 20000 in
theorem gL_acts_L_sets : GoodIn wsL_acts (va_wsS RL 43 yL_sets wsL_sets) := goodIn_app (goodIn_of _ (by decide +kernel)) ggL_acts_L_sets
