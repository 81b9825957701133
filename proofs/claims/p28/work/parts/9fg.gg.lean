set_option maxRecDepth 20000 in
theorem gq_L_areAlike_r5 : GoodIn wsL_law wsL_areAlike_r5 := goodIn_r _ [290, 291, 292, 293, 294, 295, 296, 165, 166, 297, 298, 299, 300, 172, 173, 301, 302, 303, 304, 305, 306, 307, 308, 309] (by decide +kernel) (by decide +kernel)
set_option maxRecDepth 20000 in
theorem gq_L_areAlike_r6 : GoodIn wsL_law wsL_areAlike_r6 := goodIn_r _ [217, 218, 219, 310, 225, 226, 311, 312, 313, 314, 315, 316, 317, 318, 319, 320, 321, 322, 323, 324, 325, 326, 327, 328] (by decide +kernel) (by decide +kernel)
set_option maxRecDepth 20000 in
theorem gq_L_areAlike_r7 : GoodIn wsL_law wsL_areAlike_r7 := goodIn_r _ [329, 330, 331, 185, 186, 187, 40, 332, 333, 334, 335, 336, 337, 338, 339, 340, 341, 342, 343, 344, 358, 359, 360, 361] (by decide +kernel) (by decide +kernel)
set_option maxRecDepth 20000 in
theorem gq_L_areAlike_r8 : GoodIn wsL_law wsL_areAlike_r8 := goodIn_r _ [231, 362, 363, 192, 193, 194, 195, 96, 97, 98, 99, 100, 196, 197, 198, 199, 201, 202, 203, 204, 205, 207, 208, 364] (by decide +kernel) (by decide +kernel)
