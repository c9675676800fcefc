set_option maxRecDepth 20000 in
theorem wsL_law0_r7_g : GoodIn lw_tbl wsL_law0_r7 := goodIn_r _ [2, 385, 145, 147, 386, 387, 232, 233, 234, 388, 389, 390, 22, 391, 392, 394, 3, 395, 396, 397, 398, 399, 400, 401] (by decide +kernel) (by decide +kernel)
set_option maxRecDepth 20000 in
theorem wsL_law0_r8_g : GoodIn lw_tbl wsL_law0_r8 := goodIn_r _ [402, 403, 404, 405, 406, 407, 408, 409, 410, 411, 412, 413, 414, 415, 416, 417, 418, 419, 420, 421, 422, 423, 424, 425] (by decide +kernel) (by decide +kernel)
set_option maxRecDepth 20000 in
theorem wsL_law0_r9_g : GoodIn lw_tbl wsL_law0_r9 := goodIn_r _ [426, 427, 279, 280, 23, 281, 859, 282, 283, 284, 285, 276, 860, 428, 429, 430, 431, 272, 273, 274, 275, 432, 433, 24] (by decide +kernel) (by decide +kernel)
set_option maxRecDepth 20000 in
theorem wsL_law0_r10_g : GoodIn lw_tbl wsL_law0_r10 := goodIn_r _ [434, 435, 436, 437, 317, 438, 439, 25, 440, 441, 442, 26, 443, 444, 445, 446, 311, 312, 313, 447, 325, 326, 327, 328] (by decide +kernel) (by decide +kernel)
set_option maxRecDepth 20000 in
theorem wsL_law0_r11_g : GoodIn lw_tbl wsL_law0_r11 := goodIn_r _ [330, 332, 448, 450, 4, 451, 452, 349, 350, 236, 237, 238, 239, 240, 241, 242, 243, 94, 244, 245, 246, 250, 251, 252] (by decide +kernel) (by decide +kernel)
set_option maxRecDepth 20000 in
theorem wsL_law0_r12_g : GoodIn lw_tbl wsL_law0_r12 := goodIn_r _ [253, 254, 255, 256, 257, 258, 259, 260, 261, 262, 264, 265, 266, 267, 268, 269, 270, 271, 278, 286, 287, 288, 292, 293] (by decide +kernel) (by decide +kernel)
