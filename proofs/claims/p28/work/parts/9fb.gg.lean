set_option maxRecDepth 20000 in
theorem gq_L_isStep_r1 : GoodIn wsL_law wsL_isStep_r1 := goodIn_r _ [79, 80, 73, 81, 82, 83, 84, 85, 2, 86, 16, 12, 87, 88, 89, 90, 91, 92, 93, 94, 95, 96, 97, 98] (by decide +kernel) (by decide +kernel)
set_option maxRecDepth 20000 in
theorem gq_L_isStep_r2 : GoodIn wsL_law wsL_isStep_r2 := goodIn_r _ [99, 100, 101, 102, 103, 15, 104, 105, 106, 63, 107, 108, 109, 110, 111, 112, 113, 11, 114, 31, 33, 115, 116, 117] (by decide +kernel) (by decide +kernel)
set_option maxRecDepth 20000 in
theorem gq_L_isStep_r3 : GoodIn wsL_law wsL_isStep_r3 := goodIn_r _ [30, 118, 39, 119, 120, 121, 122, 40, 41, 42, 123, 124, 125, 23, 126, 127, 128, 129, 47, 130, 131, 49, 132, 133] (by decide +kernel) (by decide +kernel)
set_option maxRecDepth 20000 in
theorem gq_L_isStep_r4 : GoodIn wsL_law wsL_isStep_r4 := goodIn_r _ [134, 51, 135, 136, 137, 138, 139, 140, 141, 55, 142, 56, 57, 143, 144, 145, 146, 147, 148, 149, 150, 151, 152, 153] (by decide +kernel) (by decide +kernel)
