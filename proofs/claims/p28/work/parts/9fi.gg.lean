set_option maxRecDepth 20000 in
theorem gq_L_isSound_r1 : GoodIn wsL_law wsL_isSound_r1 := goodIn_r _ [192, 193, 194, 2, 195, 96, 97, 98, 99, 100, 196, 197, 198, 199, 12, 200, 201, 202, 203, 204, 205, 206, 87, 207] (by decide +kernel) (by decide +kernel)
set_option maxRecDepth 20000 in
theorem gq_L_isSound_r2 : GoodIn wsL_law wsL_isSound_r2 := goodIn_r _ [208, 209, 210, 30, 211, 42, 41, 182, 183, 430, 431, 432, 433, 178, 179, 180, 91, 92, 181, 390, 391, 392, 393, 394] (by decide +kernel) (by decide +kernel)
set_option maxRecDepth 20000 in
theorem gq_L_isSound_r3 : GoodIn wsL_law wsL_isSound_r3 := goodIn_r _ [395, 396, 397, 398, 185, 186, 187, 40, 399, 400, 401, 402, 403, 144, 145, 146, 39, 94, 95, 147, 148, 149, 404, 333] (by decide +kernel) (by decide +kernel)
set_option maxRecDepth 20000 in
theorem gq_L_isSound_r4 : GoodIn wsL_law wsL_isSound_r4 := goodIn_r _ [152, 334, 282, 151, 153, 283, 155, 156, 405, 406, 407, 408, 165, 166, 409, 410, 411, 412, 413, 414, 415, 416, 417, 418] (by decide +kernel) (by decide +kernel)
