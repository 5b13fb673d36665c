set_option maxRecDepth 20000 in
theorem gL_acts_L_drops : GoodIn wsL_acts (va_wsS RL 59 yL_drops wsL_drops) := goodIn_app (goodIn_of _ (by decide +kernel)) ggL_acts_L_drops
