set_option maxRecDepth 20000 in
theorem ggL_act_L_low : GoodIn wsL_act wsL_low := goodIn_r _ [4, 5] (by decide +kernel) (by decide +kernel)
set_option maxRecDepth 20000 in
theorem gL_act_L_low : GoodIn wsL_act (va_wsS RL 54 yL_low wsL_low) := goodIn_app (goodIn_of _ (by decide +kernel)) ggL_act_L_low
set_option maxRecDepth 20000 in
theorem ggL_act_X8_count : GoodIn wsL_act wsX8_count := goodIn_ca (goodIn_r _ [10, 11, 12, 13, 14, 15, 9, 16, 17, 18, 19, 20, 21, 22, 23, 24, 25, 26, 27, 28, 29, 30, 31, 32, 33, 34, 35, 36, 37, 38, 39, 40, 41, 42, 43, 44, 45, 46, 47, 48, 49, 50, 51, 52, 53, 54, 55, 56, 57, 58, 59, 60, 61, 62, 63, 64, 65, 66, 67, 68, 69, 70, 71, 72, 73, 74, 75, 76, 77, 78, 79, 80, 81, 82, 83, 84, 85, 86, 87, 88, 89, 90, 91, 92, 93, 94, 95, 96, 97, 98, 99, 100, 101, 102, 103, 104, 105, 106, 107, 108, 109, 110, 111, 112, 113, 114, 115, 116, 117, 118, 119, 120, 121, 122, 123, 124, 125, 126, 127, 128, 129, 130, 131, 132, 133, 134, 135, 136, 137, 138, 139, 140, 141, 142, 143, 144, 145, 146, 147, 148, 149, 150, 151, 152, 153, 154, 155, 156, 157, 158, 159, 160, 161, 162, 163, 164, 165, 166, 167, 168, 169, 170, 171, 172, 173, 174, 175, 176, 177, 178, 179, 180, 181, 182, 183, 184, 185, 186, 187, 188, 323, 324, 325, 326, 327, 328, 329, 330, 331, 332, 333, 334, 335, 336, 337, 338, 339, 340, 341, 342, 343, 344, 345, 346, 347, 348, 349, 350, 351, 352, 353, 354, 355, 356, 357, 358, 359, 360, 361] (by decide +kernel) (by decide +kernel)) (goodIn_sub (fun _ h => List.mem_cons_of_mem _ (List.mem_append_left _ (List.mem_append_right _ h))) (by decide +kernel))
set_option maxRecDepth 20000 in
theorem gL_act_X8_count : GoodIn wsL_act (wsV RL 31 RX8 yX8_count wsX8_count) := goodIn_app (goodIn_of _ (by decide +kernel)) ggL_act_X8_count
set_option maxRecDepth 20000 in
theorem ggL_act_X8_cellOf : GoodIn wsL_act wsX8_cellOf := goodIn_ca (goodIn_ca (goodIn_r _ [192, 193, 194, 11, 12, 195, 78, 9, 79, 13, 14, 15, 16, 17, 18, 19, 20, 21, 22, 23, 24, 25, 26, 27, 28, 29, 30, 31, 32, 33, 34, 35, 36, 37, 38, 39, 40, 41, 42, 43, 44, 45, 46, 47, 196, 197, 198, 199, 200, 201, 136, 75, 76, 77, 202, 81, 82, 83, 84, 323, 324, 325, 326, 327, 328, 329, 330, 331, 332, 333, 334, 335, 336, 337, 338, 339, 340, 341, 342, 343, 344] (by decide +kernel) (by decide +kernel)) (goodIn_sub (fun _ h => List.mem_cons_of_mem _ (List.mem_append_right _ h)) (by decide +kernel))) (goodIn_sub (fun _ h => List.mem_cons_of_mem _ (List.mem_append_left _ (List.mem_append_right _ h))) (by decide +kernel))
set_option maxRecDepth 20000 in
theorem gL_act_X8_cellOf : GoodIn wsL_act (wsV RL 10 RX8 yX8_cellOf wsX8_cellOf) := goodIn_app (goodIn_of _ (by decide +kernel)) ggL_act_X8_cellOf
set_option maxRecDepth 20000 in
theorem ggL_act_X8_build : GoodIn wsL_act wsX8_build := goodIn_ca (goodIn_r _ [206, 193, 194, 164, 19, 195, 78, 9, 79, 207, 208, 209, 210, 211, 212, 213, 214, 215, 216, 217, 218, 219, 220, 30, 221, 36, 222, 223, 224, 225, 226, 227, 228, 229, 230, 231, 232, 233, 234, 235, 134, 135, 163, 236, 237, 238, 239, 240, 241, 242, 243, 84, 28, 29, 31, 32, 33, 34, 35, 244, 245, 246, 247, 17, 52, 200, 323, 324, 325, 326, 327, 328, 329, 330, 331, 332, 360, 361, 338, 339, 340, 341, 342, 343, 344] (by decide +kernel) (by decide +kernel)) (goodIn_sub (fun _ h => List.mem_cons_of_mem _ (List.mem_append_right _ h)) (by decide +kernel))
set_option maxRecDepth 20000 in
theorem gL_act_X8_build : GoodIn wsL_act (wsV RL 57 RX8 yX8_build wsX8_build) := goodIn_app (goodIn_of _ (by decide +kernel)) ggL_act_X8_build
set_option maxRecDepth 20000 in
theorem ggL_act_X8_setting : GoodIn wsL_act wsX8_setting := goodIn_ca (goodIn_r _ [251, 193, 194, 19, 252, 253, 254, 9, 255, 256, 46, 47, 323, 324, 325, 326, 327, 328, 329, 330, 331, 332, 338, 339, 340, 341, 342, 343, 344] (by decide +kernel) (by decide +kernel)) (goodIn_sub (fun _ h => List.mem_cons_of_mem _ (List.mem_append_right _ h)) (by decide +kernel))
set_option maxRecDepth 20000 in
theorem gL_act_X8_setting : GoodIn wsL_act (wsV RL 48 RX8 yX8_setting wsX8_setting) := goodIn_app (goodIn_of _ (by decide +kernel)) ggL_act_X8_setting
set_option maxRecDepth 20000 in
theorem ggL_act_X8_set : GoodIn wsL_act wsX8_set := goodIn_ca (goodIn_ca (goodIn_r _ [260, 193, 194, 11, 12, 261, 164, 19, 252, 253, 254, 9, 255, 256, 46, 47, 207, 208, 209, 210, 211, 212, 213, 214, 215, 216, 217, 218, 219, 220, 30, 221, 36, 222, 223, 224, 225, 226, 227, 228, 229, 230, 231, 262, 44, 45, 244, 245, 246, 247, 17, 52, 323, 324, 325, 326, 327, 328, 329, 330, 331, 332, 338, 339, 340, 341, 342, 343, 344, 360, 361] (by decide +kernel) (by decide +kernel)) (goodIn_sub (fun _ h => List.mem_cons_of_mem _ (List.mem_append_right _ h)) (by decide +kernel))) (goodIn_sub (fun _ h => List.mem_cons_of_mem _ (List.mem_append_left _ (List.mem_append_right _ h))) (by decide +kernel))
set_option maxRecDepth 20000 in
theorem gL_act_X8_set : GoodIn wsL_act (wsV RL 60 RX8 yX8_set wsX8_set) := goodIn_app (goodIn_of _ (by decide +kernel)) ggL_act_X8_set
set_option maxRecDepth 20000 in
theorem ggL_act_L_areArcs : GoodIn wsL_act wsL_areArcs := goodIn_ca (goodIn_ca (goodIn_r _ [265, 248, 249, 250, 9, 251, 193, 194, 19, 252, 253, 254, 255, 256, 46, 47, 266, 267, 268, 269, 11, 12, 270, 271, 272, 273, 274, 275, 276, 277, 99, 100, 101, 278, 279, 280, 281, 116, 117, 323, 324, 325, 326, 327, 328, 329, 330, 331, 332, 338, 339, 340, 341, 342, 343, 344] (by decide +kernel) (by decide +kernel)) (goodIn_sub (fun _ h => List.mem_cons_of_mem _ (List.mem_append_right _ h)) (by decide +kernel))) (goodIn_sub (fun _ h => List.mem_cons_of_mem _ (List.mem_append_left _ (List.mem_append_right _ h))) (by decide +kernel))
set_option maxRecDepth 20000 in
theorem gL_act_L_areArcs : GoodIn wsL_act (va_wsS RL 63 yL_areArcs wsL_areArcs) := goodIn_app (goodIn_of _ (by decide +kernel)) ggL_act_L_areArcs
set_option maxRecDepth 20000 in
theorem ggL_act_X8_walk : GoodIn wsL_act wsX8_walk := goodIn_ca (goodIn_r _ [285, 11, 12, 164, 19, 286, 287, 9, 288, 207, 208, 209, 210, 211, 212, 213, 214, 215, 216, 217, 218, 219, 220, 30, 221, 36, 222, 223, 224, 225, 226, 227, 228, 229, 230, 231, 289, 290, 291, 292, 134, 135, 163, 201, 28, 29, 31, 32, 33, 34, 35, 323, 324, 325, 326, 327, 328, 329, 330, 331, 332, 360, 361, 338, 339, 340, 341, 342, 343, 344] (by decide +kernel) (by decide +kernel)) (goodIn_sub (fun _ h => List.mem_cons_of_mem _ (List.mem_append_left _ (List.mem_append_right _ h))) (by decide +kernel))
set_option maxRecDepth 20000 in
theorem gL_act_X8_walk : GoodIn wsL_act (wsV RL 67 RX8 yX8_walk wsX8_walk) := goodIn_app (goodIn_of _ (by decide +kernel)) ggL_act_X8_walk
set_option maxRecDepth 20000 in
theorem ggL_act_X8_put : GoodIn wsL_act wsX8_put := goodIn_ca (goodIn_r _ [296, 193, 194, 164, 19, 163, 134, 135, 18, 195, 78, 9, 79, 207, 208, 209, 210, 211, 212, 213, 214, 215, 216, 217, 218, 219, 220, 30, 221, 36, 222, 223, 224, 225, 226, 227, 228, 229, 230, 231, 201, 28, 29, 31, 32, 33, 34, 35, 13, 14, 15, 16, 17, 20, 21, 22, 23, 24, 25, 26, 27, 37, 38, 39, 40, 41, 42, 43, 44, 45, 46, 47, 136, 75, 76, 77, 323, 324, 325, 326, 327, 328, 329, 330, 331, 332, 338, 339, 340, 341, 342, 343, 344, 360, 361, 333, 334, 335, 336, 337] (by decide +kernel) (by decide +kernel)) (goodIn_sub (fun _ h => List.mem_cons_of_mem _ (List.mem_append_right _ h)) (by decide +kernel))
set_option maxRecDepth 20000 in
theorem gL_act_X8_put : GoodIn wsL_act (wsV RL 70 RX8 yX8_put wsX8_put) := goodIn_app (goodIn_of _ (by decide +kernel)) ggL_act_X8_put
set_option maxRecDepth 20000 in
theorem ggL_act_X8_ifLeapt : GoodIn wsL_act wsX8_ifLeapt := goodIn_ca (goodIn_ca (goodIn_r _ [300, 193, 194, 11, 12, 195, 78, 9, 79, 286, 287, 288, 301, 302, 303, 304, 305, 306, 307, 19, 308, 309, 310, 311, 312, 313, 202, 81, 82, 30, 83, 84, 28, 29, 31, 32, 33, 34, 35, 36, 314, 86, 87, 88, 89, 90, 91, 92, 93, 94, 95, 96, 97, 98, 99, 100, 101, 46, 47, 102, 103, 104, 105, 106, 107, 108, 109, 110, 111, 112, 113, 114, 115, 116, 117, 323, 324, 325, 326, 327, 328, 329, 330, 331, 332, 348, 349, 350, 351, 352, 353, 354, 338, 339, 340, 341, 342, 343, 344] (by decide +kernel) (by decide +kernel)) (goodIn_sub (fun _ h => List.mem_cons_of_mem _ (List.mem_append_right _ h)) (by decide +kernel))) (goodIn_sub (fun _ h => List.mem_cons_of_mem _ (List.mem_append_left _ (List.mem_append_right _ h))) (by decide +kernel))
set_option maxRecDepth 20000 in
theorem gL_act_X8_ifLeapt : GoodIn wsL_act (wsV RL 16 RX8 yX8_ifLeapt wsX8_ifLeapt) := goodIn_app (goodIn_of _ (by decide +kernel)) ggL_act_X8_ifLeapt
set_option maxRecDepth 20000 in
theorem ggL_act_X8_leap : GoodIn wsL_act wsX8_leap := goodIn_ca (goodIn_r _ [318, 11, 12, 164, 19, 286, 287, 9, 288, 301, 302, 303, 207, 208, 209, 210, 211, 212, 213, 214, 215, 216, 217, 218, 219, 220, 30, 221, 36, 222, 223, 224, 225, 226, 227, 228, 229, 230, 231, 319, 320, 321, 322, 134, 135, 163, 308, 309, 310, 161, 313, 162, 202, 81, 82, 83, 84, 28, 29, 31, 32, 33, 34, 35, 314, 86, 87, 88, 89, 90, 91, 92, 93, 94, 95, 96, 97, 98, 99, 100, 101, 46, 47, 102, 103, 104, 105, 106, 107, 108, 109, 110, 111, 112, 113, 114, 115, 116, 117, 323, 324, 325, 326, 327, 328, 329, 330, 331, 332, 360, 361, 338, 339, 340, 341, 342, 343, 344, 348, 349, 350, 351, 352, 353, 354] (by decide +kernel) (by decide +kernel)) (goodIn_sub (fun _ h => List.mem_cons_of_mem _ (List.mem_append_left _ (List.mem_append_right _ h))) (by decide +kernel))
set_option maxRecDepth 20000 in
theorem gL_act_X8_leap : GoodIn wsL_act (wsV RL 73 RX8 yX8_leap wsX8_leap) := goodIn_app (goodIn_of _ (by decide +kernel)) ggL_act_X8_leap
theorem dL_act_0 : decode cL_act 0 = .ok (.iload_n 2, 1) := by decide +kernel
theorem dL_act_1 : decode cL_act 1 = .ok (.iconst 2, 1) := by decide +kernel
theorem dL_act_2 : decode cL_act 2 = .ok (.invokestatic 54, 3) := by decide +kernel
theorem dL_act_5 : decode cL_act 5 = .ok (.ifCond .ne 7, 3) := by decide +kernel
theorem dL_act_8 : decode cL_act 8 = .ok (.iconst 1, 1) := by decide +kernel
theorem dL_act_9 : decode cL_act 9 = .ok (.goto 4, 3) := by decide +kernel
theorem dL_act_12 : decode cL_act 12 = .ok (.iconst (-1), 1) := by decide +kernel
theorem dL_act_13 : decode cL_act 13 = .ok (.istore_n 3, 1) := by decide +kernel
theorem dL_act_14 : decode cL_act 14 = .ok (.iload_n 2, 1) := by decide +kernel
theorem dL_act_15 : decode cL_act 15 = .ok (.iconst 1, 1) := by decide +kernel
theorem dL_act_16 : decode cL_act 16 = .ok (.ishr, 1) := by decide +kernel
theorem dL_act_17 : decode cL_act 17 = .ok (.bipush 20, 2) := by decide +kernel
theorem dL_act_19 : decode cL_act 19 = .ok (.invokestatic 54, 3) := by decide +kernel
theorem dL_act_22 : decode cL_act 22 = .ok (.istore 4, 2) := by decide +kernel
theorem dL_act_24 : decode cL_act 24 = .ok (.iload_n 2, 1) := by decide +kernel
theorem dL_act_25 : decode cL_act 25 = .ok (.bipush 6, 2) := by decide +kernel
theorem dL_act_27 : decode cL_act 27 = .ok (.ishr, 1) := by decide +kernel
theorem dL_act_28 : decode cL_act 28 = .ok (.iload_n 2, 1) := by decide +kernel
theorem dL_act_29 : decode cL_act 29 = .ok (.bipush 12, 2) := by decide +kernel
theorem dL_act_31 : decode cL_act 31 = .ok (.ishr, 1) := by decide +kernel
theorem dL_act_32 : decode cL_act 32 = .ok (.iconst 3, 1) := by decide +kernel
theorem dL_act_33 : decode cL_act 33 = .ok (.invokestatic 54, 3) := by decide +kernel
theorem dL_act_36 : decode cL_act 36 = .ok (.ifCond .ne 8, 3) := by decide +kernel
theorem dL_act_39 : decode cL_act 39 = .ok (.bipush 10, 2) := by decide +kernel
theorem dL_act_41 : decode cL_act 41 = .ok (.goto 4, 3) := by decide +kernel
theorem dL_act_44 : decode cL_act 44 = .ok (.iconst 4, 1) := by decide +kernel
theorem dL_act_45 : decode cL_act 45 = .ok (.invokestatic 54, 3) := by decide +kernel
theorem dL_act_48 : decode cL_act 48 = .ok (.istore 5, 2) := by decide +kernel
theorem dL_act_50 : decode cL_act 50 = .ok (.aload_n 0, 1) := by decide +kernel
theorem dL_act_51 : decode cL_act 51 = .ok (.iconst 2, 1) := by decide +kernel
theorem dL_act_52 : decode cL_act 52 = .ok (.invokevirtual 31, 3) := by decide +kernel
theorem dL_act_55 : decode cL_act 55 = .ok (.istore 6, 2) := by decide +kernel
theorem dL_act_57 : decode cL_act 57 = .ok (.aload_n 0, 1) := by decide +kernel
theorem dL_act_58 : decode cL_act 58 = .ok (.iconst 3, 1) := by decide +kernel
theorem dL_act_59 : decode cL_act 59 = .ok (.invokevirtual 31, 3) := by decide +kernel
theorem dL_act_62 : decode cL_act 62 = .ok (.istore 7, 2) := by decide +kernel
theorem dL_act_64 : decode cL_act 64 = .ok (.aload_n 0, 1) := by decide +kernel
theorem dL_act_65 : decode cL_act 65 = .ok (.bipush 7, 2) := by decide +kernel
theorem dL_act_67 : decode cL_act 67 = .ok (.invokevirtual 31, 3) := by decide +kernel
theorem dL_act_70 : decode cL_act 70 = .ok (.istore 8, 2) := by decide +kernel
theorem dL_act_72 : decode cL_act 72 = .ok (.iload_n 1, 1) := by decide +kernel
theorem dL_act_73 : decode cL_act 73 = .ok (.bipush 14, 2) := by decide +kernel
theorem dL_act_75 : decode cL_act 75 = .ok (.invokestatic 54, 3) := by decide +kernel
theorem dL_act_78 : decode cL_act 78 = .ok (.tableswitch 573 0 9 #[54, 54, 54, 54, 54, 54, 272, 346, 346, 472], 54) := by decide +kernel
theorem dL_act_132 : decode cL_act 132 = .ok (.aload_n 0, 1) := by decide +kernel
theorem dL_act_133 : decode cL_act 133 = .ok (.iload 4, 2) := by decide +kernel
theorem dL_act_135 : decode cL_act 135 = .ok (.iload 5, 2) := by decide +kernel
theorem dL_act_137 : decode cL_act 137 = .ok (.iconst 0, 1) := by decide +kernel
theorem dL_act_138 : decode cL_act 138 = .ok (.invokevirtual 10, 3) := by decide +kernel
theorem dL_act_141 : decode cL_act 141 = .ok (.istore 9, 2) := by decide +kernel
theorem dL_act_143 : decode cL_act 143 = .ok (.aload_n 0, 1) := by decide +kernel
theorem dL_act_144 : decode cL_act 144 = .ok (.iload 4, 2) := by decide +kernel
theorem dL_act_146 : decode cL_act 146 = .ok (.iload 5, 2) := by decide +kernel
theorem dL_act_148 : decode cL_act 148 = .ok (.invokevirtual 57, 3) := by decide +kernel
theorem dL_act_151 : decode cL_act 151 = .ok (.istore 10, 2) := by decide +kernel
theorem dL_act_153 : decode cL_act 153 = .ok (.iload 6, 2) := by decide +kernel
theorem dL_act_155 : decode cL_act 155 = .ok (.iload 4, 2) := by decide +kernel
theorem dL_act_157 : decode cL_act 157 = .ok (.if_icmp .ne 47, 3) := by decide +kernel
theorem dL_act_160 : decode cL_act 160 = .ok (.iload 7, 2) := by decide +kernel
theorem dL_act_162 : decode cL_act 162 = .ok (.iload 5, 2) := by decide +kernel
theorem dL_act_164 : decode cL_act 164 = .ok (.if_icmp .ne 40, 3) := by decide +kernel
theorem dL_act_167 : decode cL_act 167 = .ok (.iload 10, 2) := by decide +kernel
theorem dL_act_169 : decode cL_act 169 = .ok (.iconst (-1), 1) := by decide +kernel
theorem dL_act_170 : decode cL_act 170 = .ok (.if_icmp .ne 32, 3) := by decide +kernel
theorem dL_act_173 : decode cL_act 173 = .ok (.aload_n 0, 1) := by decide +kernel
