set_option maxRecDepth 20000 in
theorem gq_L_areAlike_r1 : GoodIn wsL_law wsL_areAlike_r1 := goodIn_r _ [353, 354, 355, 2, 356, 24, 12, 200, 87, 206, 250, 124, 125, 23, 126, 127, 128, 129, 47, 130, 131, 49, 132, 133] (by decide +kernel) (by decide +kernel)
set_option maxRecDepth 20000 in
theorem gq_L_areAlike_r2 : GoodIn wsL_law wsL_areAlike_r2 := goodIn_r _ [134, 51, 135, 136, 137, 138, 139, 140, 141, 55, 142, 120, 121, 122, 56, 57, 357, 257, 258, 259, 260, 261, 262, 263] (by decide +kernel) (by decide +kernel)
set_option maxRecDepth 20000 in
theorem gq_L_areAlike_r3 : GoodIn wsL_law wsL_areAlike_r3 := goodIn_r _ [264, 265, 266, 267, 268, 269, 270, 271, 272, 182, 183, 273, 274, 275, 276, 277, 144, 145, 30, 146, 39, 94, 95, 147] (by decide +kernel) (by decide +kernel)
set_option maxRecDepth 20000 in
theorem gq_L_areAlike_r4 : GoodIn wsL_law wsL_areAlike_r4 := goodIn_r _ [148, 149, 278, 209, 210, 211, 42, 41, 279, 280, 152, 281, 282, 151, 153, 283, 155, 156, 284, 285, 286, 287, 288, 289] (by decide +kernel) (by decide +kernel)
