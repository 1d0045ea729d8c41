/-! the law's calls' words -/
set_option maxRecDepth 20000 in
theorem ggL_law_X8_init : GoodIn wsL_law wsX8_init := goodIn_r _ [9, 10, 11, 12, 13, 14, 15, 16, 17, 18, 19, 20, 21, 22, 23, 24, 25, 26, 27, 28, 29, 30, 31, 32, 33, 34, 35, 36, 37, 38, 39, 40, 41, 42, 43, 44, 45, 46, 47, 48, 49, 50, 51, 52, 53, 54, 55, 56, 57, 58, 59, 60, 61, 62, 63, 64, 65, 66, 67, 68, 69, 70, 71, 72, 73, 74, 75, 76, 77, 78, 79, 80, 81, 82, 83, 84, 85, 86, 87, 88, 89, 90, 91, 92, 1014, 1015, 1016, 1017, 1018, 1019, 1020, 978, 979, 980, 981, 982, 983, 984, 985, 986, 987, 1021, 1022, 1023, 1024, 1025, 1026, 1027, 1028, 1029, 1030, 1031, 1032, 1033, 1034, 1035, 1036, 1037, 1038, 1039, 1040, 1041, 1042, 1043, 1044, 1045, 1046, 1047, 1048, 1049, 1050, 1051, 1052, 1053, 1054] (by decide +kernel) (by decide +kernel)
set_option maxRecDepth 20000 in
theorem gL_law_X8_init : GoodIn wsL_law (wsX8_init) := ggL_law_X8_init
set_option maxRecDepth 20000 in
theorem ggL_law_X9_init : GoodIn wsL_law wsX9_init := goodIn_r _ [95, 96, 11, 12, 48, 97, 98, 99, 63, 100, 101, 102, 103, 104, 105, 106, 107, 988, 989, 990, 991, 992, 993, 994, 995, 996, 997, 998, 999, 1000, 1001, 1002, 1003, 1004, 1005, 1006, 1007, 1008, 1009, 1010, 1011, 1012, 1013] (by decide +kernel) (by decide +kernel)
set_option maxRecDepth 20000 in
theorem gL_law_X9_init : GoodIn wsL_law (wsX9_init) := ggL_law_X9_init
set_option maxRecDepth 20000 in
theorem ggL_law_L_build : GoodIn wsL_law wsL_build := goodIn_ca (goodIn_r _ [111, 112, 113, 114, 115, 2, 116, 117, 118, 20, 16, 119, 120, 121, 122, 123, 124, 19, 125, 126, 56, 127, 128, 129, 130, 131, 132, 133, 15, 134, 49, 135, 136, 137, 138, 50, 139, 140, 141, 142, 143, 144, 145, 146, 147, 148, 149, 150, 151, 152, 153, 154, 155, 156, 157, 158, 159, 160, 161, 162, 163, 164, 165, 166, 167, 168, 169, 170, 171, 172, 173, 978, 979, 980, 981, 982, 983, 984, 985, 986, 987, 1021, 1022, 1014, 1015, 1016, 1017, 1018, 1019, 1020] (by decide +kernel) (by decide +kernel)) (goodIn_sub (fun _ h => List.mem_append_left _ (List.mem_append_left _ (List.mem_append_right _ h))) (by decide +kernel))
set_option maxRecDepth 20000 in
theorem gL_law_L_build : GoodIn wsL_law (va_wsS RL 82 yL_build wsL_build) := goodIn_app (goodIn_of _ (by decide +kernel)) ggL_law_L_build
set_option maxRecDepth 20000 in
theorem ggL_law_X9_build : GoodIn wsL_law wsX9_build := goodIn_r _ [177, 178, 179, 5, 180, 181, 182, 183, 184, 185, 186, 187, 188, 189, 190, 191, 192, 193, 98, 97, 194, 195, 196, 197, 198, 199, 200, 201, 202, 203, 204, 205, 206, 207, 208, 209, 210, 211, 212, 988, 989, 990, 991, 992, 993, 994, 995, 996, 997, 998, 999, 1000, 1001, 1002, 1003, 1004, 1005, 1006, 1007, 1008, 1009, 1010, 1011, 1012, 1013] (by decide +kernel) (by decide +kernel)
set_option maxRecDepth 20000 in
theorem gL_law_X9_build : GoodIn wsL_law (wsV RL 87 RX9 yX9_build wsX9_build) := goodIn_app (goodIn_of _ (by decide +kernel)) ggL_law_X9_build
set_option maxRecDepth 20000 in
theorem ggL_law_X9_thrown : GoodIn wsL_law wsX9_thrown := goodIn_r _ [216, 188, 988, 989, 990, 991, 992, 993, 994, 995, 996, 997, 998, 999, 1000, 1001, 1002, 1003, 1004, 1005, 1006, 1007, 1008, 1009, 1010, 1011, 1012, 1013] (by decide +kernel) (by decide +kernel)
set_option maxRecDepth 20000 in
theorem gL_law_X9_thrown : GoodIn wsL_law (wsV RL 88 RX9 yX9_thrown wsX9_thrown) := goodIn_app (goodIn_of _ (by decide +kernel)) ggL_law_X9_thrown
set_option maxRecDepth 20000 in
theorem ggL_law_L_set : GoodIn wsL_law wsL_set := goodIn_ca (goodIn_ca (goodIn_r _ [219, 112, 220, 221, 222, 223, 2, 224, 117, 118, 225, 226, 227, 20, 16, 228, 229, 230, 231, 232, 233, 234, 122, 123, 124, 19, 125, 126, 56, 127, 128, 129, 130, 131, 132, 133, 15, 134, 49, 135, 136, 137, 138, 50, 139, 140, 141, 142, 143, 235, 236, 237, 167, 168, 169, 170, 171, 172, 978, 979, 980, 981, 982, 983, 984, 985, 986, 987, 1014, 1015, 1016, 1017, 1018, 1019, 1020, 1021, 1022] (by decide +kernel) (by decide +kernel)) (goodIn_sub (fun _ h => List.mem_append_left _ (List.mem_append_left _ (List.mem_append_right _ h))) (by decide +kernel))) (goodIn_sub (fun _ h => List.mem_append_left _ (List.mem_append_right _ h)) (by decide +kernel))
set_option maxRecDepth 20000 in
theorem gL_law_L_set : GoodIn wsL_law (va_wsS RL 91 yL_set wsL_set) := goodIn_app (goodIn_of _ (by decide +kernel)) ggL_law_L_set
set_option maxRecDepth 20000 in
theorem ggL_law_X9_set : GoodIn wsL_law wsX9_set := goodIn_r _ [241, 97, 181, 182, 5, 183, 184, 185, 186, 187, 188, 189, 190, 191, 192, 193, 98, 194, 195, 196, 988, 989, 990, 991, 992, 993, 994, 995, 996, 997, 998, 999, 1000, 1001, 1002, 1003, 1004, 1005, 1006, 1007, 1008, 1009, 1010, 1011, 1012, 1013] (by decide +kernel) (by decide +kernel)
set_option maxRecDepth 20000 in
theorem gL_law_X9_set : GoodIn wsL_law (wsV RL 93 RX9 yX9_set wsX9_set) := goodIn_app (goodIn_of _ (by decide +kernel)) ggL_law_X9_set
set_option maxRecDepth 20000 in
theorem ggL_law_L_walk : GoodIn wsL_law wsL_walk := goodIn_ca (goodIn_r _ [244, 220, 245, 246, 247, 2, 248, 225, 226, 20, 16, 249, 250, 251, 122, 123, 124, 19, 125, 126, 56, 127, 128, 129, 130, 131, 132, 133, 15, 134, 49, 135, 136, 137, 138, 50, 139, 140, 141, 142, 143, 252, 253, 254, 255, 148, 149, 150, 256, 160, 161, 162, 163, 164, 165, 166, 978, 979, 980, 981, 982, 983, 984, 985, 986, 987, 1021, 1022, 1014, 1015, 1016, 1017, 1018, 1019, 1020] (by decide +kernel) (by decide +kernel)) (goodIn_sub (fun _ h => List.mem_append_left _ (List.mem_append_right _ h)) (by decide +kernel))
set_option maxRecDepth 20000 in
theorem gL_law_L_walk : GoodIn wsL_law (va_wsS RL 94 yL_walk wsL_walk) := goodIn_app (goodIn_of _ (by decide +kernel)) ggL_law_L_walk
set_option maxRecDepth 20000 in
theorem ggL_law_X9_walk : GoodIn wsL_law wsX9_walk := goodIn_r _ [260, 261, 262, 5, 263, 184, 185, 186, 187, 188, 189, 190, 191, 192, 193, 98, 97, 194, 195, 196, 264, 265, 266, 267, 205, 206, 207, 208, 209, 210, 211, 212, 178, 179, 180, 181, 182, 183, 201, 202, 203, 204, 988, 989, 990, 991, 992, 993, 994, 995, 996, 997, 998, 999, 1000, 1001, 1002, 1003, 1004, 1005, 1006, 1007, 1008, 1009, 1010, 1011, 1012, 1013] (by decide +kernel) (by decide +kernel)
set_option maxRecDepth 20000 in
theorem gL_law_X9_walk : GoodIn wsL_law (wsV RL 97 RX9 yX9_walk wsX9_walk) := goodIn_app (goodIn_of _ (by decide +kernel)) ggL_law_X9_walk
set_option maxRecDepth 20000 in
theorem ggL_law_L_leap : GoodIn wsL_law wsL_leap := goodIn_ca (goodIn_r _ [270, 220, 271, 272, 273, 2, 274, 225, 226, 20, 16, 249, 250, 251, 275, 276, 277, 122, 123, 124, 19, 125, 126, 56, 127, 128, 129, 130, 131, 132, 133, 15, 134, 49, 135, 136, 137, 138, 50, 139, 140, 141, 142, 143, 278, 279, 280, 281, 148, 149, 150, 32, 282, 283, 284, 285, 286, 287, 288, 289, 290, 159, 160, 161, 162, 163, 164, 165, 166, 291, 292, 293, 31, 294, 295, 296, 297, 298, 299, 300, 301, 302, 303, 304, 305, 306, 233, 234, 307, 308, 309, 310, 311, 312, 313, 314, 315, 316, 317, 318, 319, 320, 321, 322, 978, 979, 980, 981, 982, 983, 984, 985, 986, 987, 1021, 1022, 1014, 1015, 1016, 1017, 1018, 1019, 1020, 1035, 1036, 1037, 1038, 1039, 1040, 1041] (by decide +kernel) (by decide +kernel)) (goodIn_sub (fun _ h => List.mem_append_left _ (List.mem_append_right _ h)) (by decide +kernel))
set_option maxRecDepth 20000 in
theorem gL_law_L_leap : GoodIn wsL_law (va_wsS RL 98 yL_leap wsL_leap) := goodIn_app (goodIn_of _ (by decide +kernel)) ggL_law_L_leap
set_option maxRecDepth 20000 in
theorem ggL_law_X9_leap : GoodIn wsL_law wsX9_leap := goodIn_r _ [326, 261, 262, 5, 263, 181, 182, 183, 184, 185, 186, 187, 188, 189, 190, 191, 192, 193, 98, 97, 194, 195, 196, 327, 328, 329, 330, 331, 332, 333, 334, 335, 336, 337, 338, 339, 340, 341, 342, 343, 205, 206, 207, 208, 209, 210, 211, 212, 178, 179, 180, 344, 345, 346, 347, 348, 349, 350, 351, 201, 202, 203, 204, 988, 989, 990, 991, 992, 993, 994, 995, 996, 997, 998, 999, 1000, 1001, 1002, 1003, 1004, 1005, 1006, 1007, 1008, 1009, 1010, 1011, 1012, 1013] (by decide +kernel) (by decide +kernel)
set_option maxRecDepth 20000 in
theorem gL_law_X9_leap : GoodIn wsL_law (wsV RL 100 RX9 yX9_leap wsX9_leap) := goodIn_app (goodIn_of _ (by decide +kernel)) ggL_law_X9_leap
set_option maxRecDepth 20000 in
theorem ggL_law_L_put : GoodIn wsL_law wsL_put := goodIn_ca (goodIn_r _ [354, 112, 355, 356, 357, 2, 358, 117, 118, 20, 16, 150, 148, 149, 36, 119, 120, 121, 122, 123, 124, 19, 125, 126, 56, 127, 128, 129, 130, 131, 132, 133, 15, 134, 49, 135, 136, 137, 138, 50, 139, 140, 141, 142, 143, 256, 160, 161, 162, 163, 164, 165, 166, 359, 360, 361, 362, 171, 363, 364, 365, 35, 366, 367, 79, 368, 369, 370, 371, 372, 76, 77, 78, 236, 237, 233, 234, 373, 374, 375, 376, 978, 979, 980, 981, 982, 983, 984, 985, 986, 987, 1014, 1015, 1016, 1017, 1018, 1019, 1020, 1021, 1022, 1042, 1043, 1044, 1045, 1046] (by decide +kernel) (by decide +kernel)) (goodIn_sub (fun _ h => List.mem_append_left _ (List.mem_append_left _ (List.mem_append_right _ h))) (by decide +kernel))
set_option maxRecDepth 20000 in
theorem gL_law_L_put : GoodIn wsL_law (va_wsS RL 101 yL_put wsL_put) := goodIn_app (goodIn_of _ (by decide +kernel)) ggL_law_L_put
set_option maxRecDepth 20000 in
theorem ggL_law_X9_put : GoodIn wsL_law wsX9_put := goodIn_r _ [380, 97, 178, 179, 5, 180, 181, 182, 183, 184, 185, 186, 187, 188, 189, 190, 191, 192, 193, 98, 194, 195, 196, 205, 206, 207, 208, 209, 210, 211, 212, 201, 202, 203, 204, 381, 382, 383, 384, 385, 102, 103, 104, 386, 387, 388, 389, 988, 989, 990, 991, 992, 993, 994, 995, 996, 997, 998, 999, 1000, 1001, 1002, 1003, 1004, 1005, 1006, 1007, 1008, 1009, 1010, 1011, 1012, 1013] (by decide +kernel) (by decide +kernel)
set_option maxRecDepth 20000 in
theorem gL_law_X9_put : GoodIn wsL_law (wsV RL 103 RX9 yX9_put wsX9_put) := goodIn_app (goodIn_of _ (by decide +kernel)) ggL_law_X9_put
set_option maxRecDepth 20000 in
theorem ggL_law_L_append : GoodIn wsL_law wsL_append := goodIn_ca (goodIn_ca (goodIn_r _ [392, 220, 393, 394, 395, 396, 2, 397, 225, 226, 398, 399, 28, 400, 401, 402, 403, 27, 404, 405, 406, 407, 408, 409, 69, 410, 68, 411, 412, 413, 414, 415, 416, 417, 418, 419, 420, 421, 422, 276, 277, 236, 237, 978, 979, 980, 981, 982, 983, 984, 985, 986, 987, 1025, 1026, 1027, 1028, 1029, 1030, 1031, 1032, 1033, 1034] (by decide +kernel) (by decide +kernel)) (goodIn_sub (fun _ h => List.mem_append_left _ (List.mem_append_right _ h)) (by decide +kernel))) (goodIn_sub (fun _ h => List.mem_append_right _ h) (by decide +kernel))
set_option maxRecDepth 20000 in
theorem gL_law_L_append : GoodIn wsL_law (va_wsS RL 104 yL_append wsL_append) := goodIn_app (goodIn_of _ (by decide +kernel)) ggL_law_L_append
set_option maxRecDepth 20000 in
theorem ggL_law_X9_append : GoodIn wsL_law wsX9_append := goodIn_r _ [426, 427, 101, 181, 182, 5, 183, 184, 185, 186, 187, 188, 988, 989, 990, 991, 992, 993, 994, 995, 996, 997, 998, 999, 1000, 1001, 1002, 1003, 1004, 1005, 1006, 1007, 1008, 1009, 1010, 1011, 1012, 1013] (by decide +kernel) (by decide +kernel)
set_option maxRecDepth 20000 in
theorem gL_law_X9_append : GoodIn wsL_law (wsV RL 106 RX9 yX9_append wsX9_append) := goodIn_app (goodIn_of _ (by decide +kernel)) ggL_law_X9_append
set_option maxRecDepth 20000 in
theorem ggL_law_X8_clearBuffer : GoodIn wsL_law wsX8_clearBuffer := goodIn_r _ [431, 28, 400, 432, 433, 434, 27, 435, 405, 69, 978, 979, 980, 981, 982, 983, 984, 985, 986, 987, 1025, 1026, 1027, 1028, 1029, 1030, 1031, 1032, 1033, 1034] (by decide +kernel) (by decide +kernel)
set_option maxRecDepth 20000 in
theorem gL_law_X8_clearBuffer : GoodIn wsL_law (wsV RL 107 RX8 yX8_clearBuffer wsX8_clearBuffer) := goodIn_app (goodIn_of _ (by decide +kernel)) ggL_law_X8_clearBuffer
set_option maxRecDepth 20000 in
theorem ggL_law_X9_clearBuffer : GoodIn wsL_law wsX9_clearBuffer := goodIn_r _ [439, 188, 427, 988, 989, 990, 991, 992, 993, 994, 995, 996, 997, 998, 999, 1000, 1001, 1002, 1003, 1004, 1005, 1006, 1007, 1008, 1009, 1010, 1011, 1012, 1013] (by decide +kernel) (by decide +kernel)
set_option maxRecDepth 20000 in
theorem gL_law_X9_clearBuffer : GoodIn wsL_law (wsV RL 110 RX9 yX9_clearBuffer wsX9_clearBuffer) := goodIn_app (goodIn_of _ (by decide +kernel)) ggL_law_X9_clearBuffer
set_option maxRecDepth 20000 in
theorem ggL_law_X8_firstError : GoodIn wsL_law wsX8_firstError := goodIn_r _ [443, 28, 444, 445, 446, 27, 447, 69, 410, 405, 978, 979, 980, 981, 982, 983, 984, 985, 986, 987, 1025, 1026, 1027, 1028, 1029, 1030, 1031, 1032, 1033, 1034] (by decide +kernel) (by decide +kernel)
set_option maxRecDepth 20000 in
theorem gL_law_X8_firstError : GoodIn wsL_law (wsV RL 111 RX8 yX8_firstError wsX8_firstError) := goodIn_app (goodIn_of _ (by decide +kernel)) ggL_law_X8_firstError
set_option maxRecDepth 20000 in
theorem ggL_law_X9_firstError : GoodIn wsL_law wsX9_firstError := goodIn_r _ [451, 188, 427, 452, 453, 454, 455, 5, 456, 457, 458, 459, 460, 461, 101, 462, 463, 464, 465, 466, 467, 468, 469, 470, 471, 181, 182, 183, 472, 473, 474, 475, 476, 477, 478, 479, 480, 481, 482, 483, 484, 485, 486, 487, 488, 197, 198, 199, 200, 97, 201, 202, 203, 204, 205, 206, 207, 208, 209, 210, 211, 212, 178, 179, 180, 264, 265, 266, 267, 327, 328, 329, 330, 331, 332, 333, 334, 335, 336, 337, 338, 339, 340, 341, 342, 343, 344, 345, 346, 347, 348, 349, 350, 351, 988, 989, 990, 991, 992, 993, 994, 995, 996, 997, 998, 999, 1000, 1001, 1002, 1003, 1004, 1005, 1006, 1007, 1008, 1009, 1010, 1011, 1012, 1013] (by decide +kernel) (by decide +kernel)
set_option maxRecDepth 20000 in
theorem gL_law_X9_firstError : GoodIn wsL_law (wsV RL 114 RX9 yX9_firstError wsX9_firstError) := goodIn_app (goodIn_of _ (by decide +kernel)) ggL_law_X9_firstError
set_option maxRecDepth 20000 in
theorem ggL_law_L_run : GoodIn wsL_law wsL_run := goodIn_ca (goodIn_r _ [491, 220, 492, 493, 494, 2, 495, 225, 226, 28, 20, 16, 496, 497, 498, 27, 499, 69, 122, 123, 124, 19, 125, 126, 56, 127, 128, 129, 130, 131, 132, 133, 15, 134, 49, 135, 136, 137, 138, 50, 139, 140, 141, 142, 143, 500, 501, 502, 503, 504, 505, 506, 507, 508, 405, 509, 510, 511, 512, 513, 514, 515, 516, 517, 518, 519, 520, 521, 68, 233, 234, 522, 523, 524, 525, 417, 418, 419, 526, 527, 528, 529, 530, 531, 532, 533, 534, 144, 145, 146, 147, 148, 149, 150, 151, 152, 153, 154, 155, 156, 157, 158, 159, 160, 161, 162, 163, 164, 165, 166, 167, 168, 169, 170, 171, 172, 173, 252, 253, 254, 255, 256, 278, 279, 280, 281, 32, 282, 283, 284, 285, 286, 287, 288, 289, 290, 291, 292, 293, 31, 294, 295, 296, 297, 298, 299, 300, 301, 302, 303, 304, 305, 306, 307, 308, 309, 310, 311, 312, 313, 314, 315, 316, 317, 318, 319, 320, 321, 322, 432, 433, 434, 435, 978, 979, 980, 981, 982, 983, 984, 985, 986, 987, 1025, 1026, 1027, 1028, 1029, 1030, 1031, 1032, 1033, 1034, 1021, 1022, 1014, 1015, 1016, 1017, 1018, 1019, 1020, 1035, 1036, 1037, 1038, 1039, 1040, 1041] (by decide +kernel) (by decide +kernel)) (goodIn_sub (fun _ h => List.mem_append_left _ (List.mem_append_right _ h)) (by decide +kernel))
set_option maxRecDepth 20000 in
theorem gL_law_L_run : GoodIn wsL_law (va_wsS RL 115 yL_run wsL_run) := goodIn_app (goodIn_of _ (by decide +kernel)) ggL_law_L_run
set_option maxRecDepth 20000 in
theorem ggL_law_X9_run : GoodIn wsL_law wsX9_run := goodIn_r _ [538, 427, 457, 453, 454, 455, 5, 456, 452, 458, 459, 460, 461, 101, 462, 463, 464, 465, 466, 467, 468, 469, 470, 471, 181, 182, 183, 472, 473, 474, 475, 476, 477, 478, 479, 480, 481, 482, 483, 484, 485, 486, 487, 488, 197, 198, 199, 200, 97, 201, 202, 203, 204, 205, 206, 207, 208, 209, 210, 211, 212, 178, 179, 180, 264, 265, 266, 267, 327, 328, 329, 330, 331, 332, 333, 334, 335, 336, 337, 338, 339, 340, 341, 342, 343, 344, 345, 346, 347, 348, 349, 350, 351, 184, 185, 186, 187, 188, 189, 190, 191, 192, 193, 98, 194, 195, 196, 988, 989, 990, 991, 992, 993, 994, 995, 996, 997, 998, 999, 1000, 1001, 1002, 1003, 1004, 1005, 1006, 1007, 1008, 1009, 1010, 1011, 1012, 1013] (by decide +kernel) (by decide +kernel)
set_option maxRecDepth 20000 in
theorem gL_law_X9_run : GoodIn wsL_law (wsV RL 118 RX9 yX9_run wsX9_run) := goodIn_app (goodIn_of _ (by decide +kernel)) ggL_law_X9_run
set_option maxRecDepth 20000 in
theorem ggL_law_L_keep : GoodIn wsL_law wsL_keep := goodIn_ca (goodIn_r _ [541, 220, 542, 543, 544, 2, 545, 225, 226, 24, 16, 546, 547, 548, 549, 550, 551, 23, 552, 62, 64, 553, 132, 133, 15, 134, 49, 135, 136, 137, 138, 50, 139, 140, 141, 142, 143, 554, 555, 556, 557, 558, 559, 560, 561, 562, 563, 564, 978, 979, 980, 981, 982, 983, 984, 985, 986, 987, 1023, 1024, 1014, 1015, 1016, 1017, 1018, 1019, 1020] (by decide +kernel) (by decide +kernel)) (goodIn_sub (fun _ h => List.mem_append_left _ (List.mem_append_right _ h)) (by decide +kernel))
set_option maxRecDepth 20000 in
theorem gL_law_L_keep : GoodIn wsL_law (va_wsS RL 119 yL_keep wsL_keep) := goodIn_app (goodIn_of _ (by decide +kernel)) ggL_law_L_keep
set_option maxRecDepth 20000 in
theorem ggL_law_X9_keep : GoodIn wsL_law wsX9_keep := goodIn_r _ [568, 97, 99, 100, 569, 570, 5, 571, 181, 182, 183, 184, 185, 186, 187, 188, 194, 195, 196, 572, 573, 574, 575, 988, 989, 990, 991, 992, 993, 994, 995, 996, 997, 998, 999, 1000, 1001, 1002, 1003, 1004, 1005, 1006, 1007, 1008, 1009, 1010, 1011, 1012, 1013] (by decide +kernel) (by decide +kernel)
set_option maxRecDepth 20000 in
theorem gL_law_X9_keep : GoodIn wsL_law (wsV RL 121 RX9 yX9_keep wsX9_keep) := goodIn_app (goodIn_of _ (by decide +kernel)) ggL_law_X9_keep
set_option maxRecDepth 20000 in
theorem ggL_law_L_goBack : GoodIn wsL_law wsL_goBack := goodIn_ca (goodIn_ca (goodIn_r _ [578, 220, 393, 579, 580, 581, 2, 582, 225, 226, 398, 399, 24, 20, 16, 546, 547, 548, 583, 584, 585, 23, 586, 64, 122, 123, 124, 19, 125, 126, 56, 127, 128, 129, 130, 131, 132, 133, 15, 134, 49, 135, 136, 137, 138, 50, 139, 140, 141, 142, 143, 587, 588, 589, 590, 62, 591, 553, 167, 168, 169, 170, 171, 172, 554, 555, 556, 557, 558, 559, 560, 561, 562, 563, 564, 978, 979, 980, 981, 982, 983, 984, 985, 986, 987, 1023, 1024, 1021, 1022, 1014, 1015, 1016, 1017, 1018, 1019, 1020] (by decide +kernel) (by decide +kernel)) (goodIn_sub (fun _ h => List.mem_append_left _ (List.mem_append_right _ h)) (by decide +kernel))) (goodIn_sub (fun _ h => List.mem_append_right _ h) (by decide +kernel))
set_option maxRecDepth 20000 in
theorem gL_law_L_goBack : GoodIn wsL_law (va_wsS RL 122 yL_goBack wsL_goBack) := goodIn_app (goodIn_of _ (by decide +kernel)) ggL_law_L_goBack
set_option maxRecDepth 20000 in
theorem ggL_law_X9_goBack : GoodIn wsL_law wsX9_goBack := goodIn_r _ [595, 100, 99, 97, 569, 570, 5, 571, 181, 182, 183, 184, 185, 186, 187, 188, 189, 190, 191, 192, 193, 98, 194, 195, 196, 572, 573, 574, 575, 988, 989, 990, 991, 992, 993, 994, 995, 996, 997, 998, 999, 1000, 1001, 1002, 1003, 1004, 1005, 1006, 1007, 1008, 1009, 1010, 1011, 1012, 1013] (by decide +kernel) (by decide +kernel)
