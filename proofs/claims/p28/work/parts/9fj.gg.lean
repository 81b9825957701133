set_option maxRecDepth 20000 in
theorem gq_L_isSound_r5 : GoodIn wsL_law wsL_isSound_r5 := goodIn_r _ [419, 420, 421, 422, 423, 424, 425, 426, 364, 365, 366, 367, 231, 368, 369, 370, 51, 371, 136, 137, 138, 139, 141, 140] (by decide +kernel) (by decide +kernel)
set_option maxRecDepth 20000 in
theorem gq_L_isSound_r6 : GoodIn wsL_law wsL_isSound_r6 := goodIn_r _ [372, 270, 271, 272, 55, 373, 274, 275, 276, 56] (by decide +kernel) (by decide +kernel)
set_option maxRecDepth 20000 in
theorem gq_L_isSound_h : GoodIn wsL_law [Cond.code yL_isSound cL_isSound 4 (some .boolean)] := goodIn_r _ [429] (by decide +kernel) (by decide +kernel)
