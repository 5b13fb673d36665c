set_option maxRecDepth 20000 in
theorem gL_acts_L_signs : GoodIn wsL_acts (va_wsS RL 55 yL_signs wsL_signs) := goodIn_app (goodIn_of _ (by decide +kernel)) ggL_acts_L_signs
set_option maxRecDepth 20000 in
theorem ggL_acts_L_width : GoodIn wsL_acts wsL_width := goodIn_r _ [245, 246, 247, 6, 248] (by decide +kernel) (by decide +kernel)
set_option maxRecDepth 20000 in
theorem gL_acts_L_width : GoodIn wsL_acts (va_wsS RL 15 yL_width wsL_width) := goodIn_app (goodIn_of _ (by decide +kernel)) ggL_acts_L_width
