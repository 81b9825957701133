set_option maxRecDepth 20000 in
theorem gq_L_isStep_r13 : GoodIn wsL_law wsL_isStep_r13 := goodIn_r _ [345, 346, 347, 348, 349] (by decide +kernel) (by decide +kernel)
set_option maxRecDepth 20000 in
theorem gq_L_isStep_h : GoodIn wsL_law [Cond.code yL_isStep cL_isStep 10 (some .boolean)] := goodIn_r _ [78] (by decide +kernel) (by decide +kernel)
