/-! rows of the body -/
set_option maxRecDepth 20000 in
theorem ggL_law_L_isRunner : GoodIn wsL_law wsL_isRunner := goodIn_ca (goodIn_ca (goodIn_r _ [323, 145, 146, 147, 2, 148, 99, 100, 104, 105, 106, 107, 108, 32, 12, 109, 110, 111, 31, 112, 113, 75, 114, 115, 116, 11, 117, 118, 119, 120, 121, 45, 122, 123, 124, 125, 72, 73, 74, 126, 127, 128, 129, 149, 150, 151, 152, 153, 36, 40, 154, 155, 156, 35, 157, 158, 159, 79, 160, 161, 162, 163, 164, 165, 166, 167, 81, 168, 169, 170, 137, 138, 139, 102, 103, 171, 141, 142, 143, 144, 172, 173, 174, 27, 175, 176, 177, 178, 179, 180, 181, 182, 183, 184, 185, 186, 187, 188, 189, 190, 191, 192, 193, 194, 195, 196, 197, 198, 199, 200, 201, 202, 203, 204, 205, 206, 39, 207, 85, 208, 209, 210, 211, 212, 213, 214, 215, 216, 217, 218, 219, 136, 220, 221, 222, 223, 87, 86, 224, 225, 226, 227, 228, 229, 230, 231, 232, 233, 234, 235, 236, 237, 238, 239, 240, 241, 242, 243, 244, 16, 245, 246, 247, 248, 249, 250, 251, 252, 253, 254, 255, 256, 257, 258, 259, 260, 261, 262, 263, 264, 265, 266, 267, 268, 324, 325, 326, 327, 97, 98, 273, 274, 275, 276, 328, 329, 330, 331, 332, 333, 334, 335, 336, 337, 338, 88, 339, 340, 341, 342, 343, 344, 345, 346, 347, 348, 349, 350, 351, 352, 353, 354, 355, 356, 357, 358, 359, 360, 361, 362, 477, 478, 479, 480, 481, 482, 483, 484, 485, 486, 515, 516, 517, 518, 519, 487, 488, 489, 490, 491, 492, 493, 520, 521, 522, 508, 509, 510, 511, 512, 513, 514, 523, 524, 525, 526, 527, 494, 495] (by decide +kernel) (by decide +kernel)) (goodIn_sub (fun _ h => List.mem_append_right _ h) (by decide +kernel))) (goodIn_sub (fun _ h => List.mem_append_left _ (List.mem_append_right _ h)) (by decide +kernel))
set_option maxRecDepth 20000 in
theorem gL_law_L_isRunner : GoodIn wsL_law (va_wsS RL 80 yL_isRunner wsL_isRunner) := goodIn_app (goodIn_of _ (by decide +kernel)) ggL_law_L_isRunner
set_option maxRecDepth 20000 in
theorem ggL_law_L_cell : GoodIn wsL_law wsL_cell := goodIn_r _ [365, 366, 367] (by decide +kernel) (by decide +kernel)
set_option maxRecDepth 20000 in
theorem gL_law_L_cell : GoodIn wsL_law (va_wsS RL 83 yL_cell wsL_cell) := goodIn_app (goodIn_of _ (by decide +kernel)) ggL_law_L_cell
set_option maxRecDepth 20000 in
theorem ggL_law_L_low : GoodIn wsL_law wsL_low := goodIn_r _ [373, 374] (by decide +kernel) (by decide +kernel)
set_option maxRecDepth 20000 in
theorem gL_law_L_low : GoodIn wsL_law (va_wsS RL 54 yL_low wsL_low) := goodIn_app (goodIn_of _ (by decide +kernel)) ggL_law_L_low
