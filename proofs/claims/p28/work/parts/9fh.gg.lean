set_option maxRecDepth 20000 in
theorem gq_L_areAlike_r9 : GoodIn wsL_law wsL_areAlike_r9 := goodIn_r _ [365, 366, 367, 178, 179, 180, 91, 92, 181, 368, 369, 370, 371, 372, 373, 374, 375, 376, 377, 378, 379, 380, 381, 382] (by decide +kernel) (by decide +kernel)
set_option maxRecDepth 20000 in
theorem gq_L_areAlike_r10 : GoodIn wsL_law wsL_areAlike_r10 := goodIn_r _ [383, 384, 385, 386, 387, 388, 232, 233, 234, 235, 389, 390, 391, 392, 393, 394, 395, 396, 397, 398, 399, 400, 401, 402] (by decide +kernel) (by decide +kernel)
set_option maxRecDepth 20000 in
theorem gq_L_areAlike_r11 : GoodIn wsL_law wsL_areAlike_r11 := goodIn_r _ [403, 404, 405, 406, 407, 408, 409, 410, 411, 412, 413, 414, 415, 416, 417, 418, 419, 420, 421, 422, 423, 424, 425, 426] (by decide +kernel) (by decide +kernel)
set_option maxRecDepth 20000 in
theorem gq_L_areAlike_h : GoodIn wsL_law [Cond.code yL_areAlike cL_areAlike 5 (some .boolean)] := goodIn_r _ [352] (by decide +kernel) (by decide +kernel)
