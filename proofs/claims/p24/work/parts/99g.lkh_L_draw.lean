set_option maxRecDepth 20000 in
theorem ggL_house_L_draw : GoodIn wsL_house wsL_draw := goodIn_r _ [87, 88, 89, 90] (by decide +kernel) (by decide +kernel)
set_option maxRecDepth 20000 in
theorem gL_house_L_draw : GoodIn wsL_house (va_wsS RL 99 yL_draw wsL_draw) := goodIn_app (goodIn_of _ (by decide +kernel)) ggL_house_L_draw
