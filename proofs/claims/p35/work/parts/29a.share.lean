set_option maxRecDepth 20000 in
theorem ggL_share_L_men : GoodIn wsL_share wsL_men := goodIn_r _ [5] (by decide +kernel) (by decide +kernel)
set_option maxRecDepth 20000 in
theorem gL_share_L_men : GoodIn wsL_share (va_wsS RL 59 yL_men wsL_men) := goodIn_app (goodIn_of _ (by decide +kernel)) ggL_share_L_men
set_option maxRecDepth 20000 in
theorem ggL_share_L_roundOf : GoodIn wsL_share wsL_roundOf := goodIn_r _ [8] (by decide +kernel) (by decide +kernel)
set_option maxRecDepth 20000 in
theorem gL_share_L_roundOf : GoodIn wsL_share (va_wsS RL 65 yL_roundOf wsL_roundOf) := goodIn_app (goodIn_of _ (by decide +kernel)) ggL_share_L_roundOf
