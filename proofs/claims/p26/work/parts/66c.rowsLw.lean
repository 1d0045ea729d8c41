set_option maxRecDepth 20000 in
theorem ggL_isThere_X8_ledgeOf : GoodIn wsL_isThere wsX8_ledgeOf := goodIn_ca (goodIn_ca (goodIn_r _ [5, 6, 7, 8, 9, 10, 11, 12, 13, 4, 14, 15, 16, 17, 18, 19, 20, 21, 22, 23, 24, 25, 26, 27, 28, 29, 30, 31, 32, 33, 34, 35, 36, 37, 38, 39, 40, 41, 42, 43, 44, 45, 46, 47, 48, 49, 50, 51, 52, 53, 54, 55, 56, 57, 58, 59, 60, 61, 62, 63, 64, 65, 66, 67, 68, 69, 70, 71, 72, 73, 74, 75, 76, 77, 78, 79, 80, 81, 82, 83, 84, 85, 86, 87, 88, 89, 90, 91, 92, 93, 94, 95, 96, 97, 98, 99, 100, 101, 102, 103, 104, 105, 106, 107, 108, 109, 110, 111, 112, 113, 114, 115, 116, 117, 118, 119, 120, 121, 122, 123, 124, 125, 126, 127, 128, 129, 130, 131, 132, 133, 134, 135, 136, 137, 138, 139, 140, 141, 142, 143, 144, 145, 146, 147, 148, 149, 150, 185, 186, 187, 188, 189, 190, 191, 192, 193, 194, 195, 196, 197, 198, 199, 200, 201, 202, 203, 204, 205, 206, 207, 208, 209, 210, 211, 212, 213, 214, 215, 216, 217, 218, 219, 220, 221] (by decide +kernel) (by decide +kernel)) (goodIn_sub (fun _ h => List.mem_cons_of_mem _ (List.mem_append_left _ (List.mem_append_right _ h))) (by decide +kernel))) (goodIn_sub (fun _ h => List.mem_cons_of_mem _ (List.mem_append_right _ h)) (by decide +kernel))
set_option maxRecDepth 20000 in
theorem gL_isThere_X8_ledgeOf : GoodIn wsL_isThere (wsV RL 28 RX8 yX8_ledgeOf wsX8_ledgeOf) := goodIn_app (goodIn_of _ (by decide +kernel)) ggL_isThere_X8_ledgeOf
set_option maxRecDepth 20000 in
theorem ggL_isThere_X8_ifLeapt : GoodIn wsL_isThere wsX8_ifLeapt := goodIn_ca (goodIn_ca (goodIn_r _ [154, 6, 7, 8, 9, 155, 79, 4, 80, 156, 157, 158, 159, 160, 161, 162, 163, 164, 165, 16, 166, 167, 168, 169, 170, 171, 172, 82, 83, 27, 84, 85, 25, 26, 28, 29, 30, 31, 32, 33, 173, 87, 88, 89, 90, 91, 92, 93, 94, 95, 96, 97, 98, 99, 100, 101, 102, 43, 44, 103, 104, 105, 106, 107, 108, 109, 110, 111, 112, 113, 114, 115, 116, 117, 118, 185, 186, 187, 188, 189, 190, 191, 192, 193, 194, 210, 211, 212, 213, 214, 215, 216, 200, 201, 202, 203, 204, 205, 206] (by decide +kernel) (by decide +kernel)) (goodIn_sub (fun _ h => List.mem_cons_of_mem _ (List.mem_append_left _ (List.mem_append_right _ h))) (by decide +kernel))) (goodIn_sub (fun _ h => List.mem_cons_of_mem _ (List.mem_append_right _ h)) (by decide +kernel))
set_option maxRecDepth 20000 in
theorem gL_isThere_X8_ifLeapt : GoodIn wsL_isThere (wsV RL 16 RX8 yX8_ifLeapt wsX8_ifLeapt) := goodIn_app (goodIn_of _ (by decide +kernel)) ggL_isThere_X8_ifLeapt
set_option maxRecDepth 20000 in
theorem ggL_isThere_X8_cellOf : GoodIn wsL_isThere wsX8_cellOf := goodIn_ca (goodIn_ca (goodIn_r _ [177, 6, 7, 8, 9, 155, 79, 4, 80, 11, 12, 13, 14, 15, 10, 16, 17, 18, 19, 20, 21, 22, 23, 24, 25, 26, 27, 28, 29, 30, 31, 32, 33, 34, 35, 36, 37, 38, 39, 40, 41, 42, 43, 44, 178, 179, 180, 181, 182, 183, 184, 76, 77, 78, 172, 82, 83, 84, 85, 185, 186, 187, 188, 189, 190, 191, 192, 193, 194, 195, 196, 197, 198, 199, 200, 201, 202, 203, 204, 205, 206] (by decide +kernel) (by decide +kernel)) (goodIn_sub (fun _ h => List.mem_cons_of_mem _ (List.mem_append_left _ (List.mem_append_right _ h))) (by decide +kernel))) (goodIn_sub (fun _ h => List.mem_cons_of_mem _ (List.mem_append_right _ h)) (by decide +kernel))
set_option maxRecDepth 20000 in
theorem gL_isThere_X8_cellOf : GoodIn wsL_isThere (wsV RL 10 RX8 yX8_cellOf wsX8_cellOf) := goodIn_app (goodIn_of _ (by decide +kernel)) ggL_isThere_X8_cellOf
theorem dL_isThere_0 : decode cL_isThere 0 = .ok (.aload_n 0, 1) := by decide +kernel
theorem dL_isThere_1 : decode cL_isThere 1 = .ok (.iload_n 1, 1) := by decide +kernel
theorem dL_isThere_2 : decode cL_isThere 2 = .ok (.iconst 0, 1) := by decide +kernel
theorem dL_isThere_3 : decode cL_isThere 3 = .ok (.invokevirtual 28, 3) := by decide +kernel
theorem dL_isThere_6 : decode cL_isThere 6 = .ok (.istore 4, 2) := by decide +kernel
theorem dL_isThere_8 : decode cL_isThere 8 = .ok (.aload_n 0, 1) := by decide +kernel
theorem dL_isThere_9 : decode cL_isThere 9 = .ok (.iload_n 1, 1) := by decide +kernel
theorem dL_isThere_10 : decode cL_isThere 10 = .ok (.iconst 1, 1) := by decide +kernel
theorem dL_isThere_11 : decode cL_isThere 11 = .ok (.invokevirtual 28, 3) := by decide +kernel
theorem dL_isThere_14 : decode cL_isThere 14 = .ok (.istore 5, 2) := by decide +kernel
theorem dL_isThere_16 : decode cL_isThere 16 = .ok (.iconst 0, 1) := by decide +kernel
theorem dL_isThere_17 : decode cL_isThere 17 = .ok (.istore 6, 2) := by decide +kernel
theorem dL_isThere_19 : decode cL_isThere 19 = .ok (.iload 6, 2) := by decide +kernel
theorem dL_isThere_21 : decode cL_isThere 21 = .ok (.iconst 2, 1) := by decide +kernel
theorem dL_isThere_22 : decode cL_isThere 22 = .ok (.aload_n 0, 1) := by decide +kernel
theorem dL_isThere_23 : decode cL_isThere 23 = .ok (.iload_n 1, 1) := by decide +kernel
theorem dL_isThere_24 : decode cL_isThere 24 = .ok (.iconst 2, 1) := by decide +kernel
theorem dL_isThere_25 : decode cL_isThere 25 = .ok (.invokevirtual 28, 3) := by decide +kernel
theorem dL_isThere_28 : decode cL_isThere 28 = .ok (.imul, 1) := by decide +kernel
theorem dL_isThere_29 : decode cL_isThere 29 = .ok (.if_icmp .ge 77, 3) := by decide +kernel
theorem dL_isThere_32 : decode cL_isThere 32 = .ok (.iload 6, 2) := by decide +kernel
theorem dL_isThere_34 : decode cL_isThere 34 = .ok (.iconst 2, 1) := by decide +kernel
theorem dL_isThere_35 : decode cL_isThere 35 = .ok (.irem, 1) := by decide +kernel
theorem dL_isThere_36 : decode cL_isThere 36 = .ok (.ifCond .ne 7, 3) := by decide +kernel
theorem dL_isThere_39 : decode cL_isThere 39 = .ok (.iconst 1, 1) := by decide +kernel
theorem dL_isThere_40 : decode cL_isThere 40 = .ok (.goto 4, 3) := by decide +kernel
theorem dL_isThere_43 : decode cL_isThere 43 = .ok (.iconst (-1), 1) := by decide +kernel
theorem dL_isThere_44 : decode cL_isThere 44 = .ok (.istore 7, 2) := by decide +kernel
theorem dL_isThere_46 : decode cL_isThere 46 = .ok (.aload_n 0, 1) := by decide +kernel
theorem dL_isThere_47 : decode cL_isThere 47 = .ok (.iload 5, 2) := by decide +kernel
theorem dL_isThere_49 : decode cL_isThere 49 = .ok (.iload 6, 2) := by decide +kernel
theorem dL_isThere_51 : decode cL_isThere 51 = .ok (.iconst 2, 1) := by decide +kernel
theorem dL_isThere_52 : decode cL_isThere 52 = .ok (.idiv, 1) := by decide +kernel
theorem dL_isThere_53 : decode cL_isThere 53 = .ok (.iadd, 1) := by decide +kernel
theorem dL_isThere_54 : decode cL_isThere 54 = .ok (.iload 4, 2) := by decide +kernel
theorem dL_isThere_56 : decode cL_isThere 56 = .ok (.iload 7, 2) := by decide +kernel
theorem dL_isThere_58 : decode cL_isThere 58 = .ok (.iload_n 3, 1) := by decide +kernel
theorem dL_isThere_59 : decode cL_isThere 59 = .ok (.iconst 0, 1) := by decide +kernel
theorem dL_isThere_60 : decode cL_isThere 60 = .ok (.invokevirtual 16, 3) := by decide +kernel
theorem dL_isThere_63 : decode cL_isThere 63 = .ok (.istore 8, 2) := by decide +kernel
theorem dL_isThere_65 : decode cL_isThere 65 = .ok (.iload 8, 2) := by decide +kernel
theorem dL_isThere_67 : decode cL_isThere 67 = .ok (.ifCond .lt 33, 3) := by decide +kernel
theorem dL_isThere_70 : decode cL_isThere 70 = .ok (.aload_n 0, 1) := by decide +kernel
theorem dL_isThere_71 : decode cL_isThere 71 = .ok (.iload 8, 2) := by decide +kernel
theorem dL_isThere_73 : decode cL_isThere 73 = .ok (.aload_n 0, 1) := by decide +kernel
theorem dL_isThere_74 : decode cL_isThere 74 = .ok (.iload 5, 2) := by decide +kernel
theorem dL_isThere_76 : decode cL_isThere 76 = .ok (.iload 6, 2) := by decide +kernel
theorem dL_isThere_78 : decode cL_isThere 78 = .ok (.iconst 2, 1) := by decide +kernel
theorem dL_isThere_79 : decode cL_isThere 79 = .ok (.idiv, 1) := by decide +kernel
theorem dL_isThere_80 : decode cL_isThere 80 = .ok (.iadd, 1) := by decide +kernel
theorem dL_isThere_81 : decode cL_isThere 81 = .ok (.iload 4, 2) := by decide +kernel
theorem dL_isThere_83 : decode cL_isThere 83 = .ok (.iload 7, 2) := by decide +kernel
theorem dL_isThere_85 : decode cL_isThere 85 = .ok (.iload_n 3, 1) := by decide +kernel
theorem dL_isThere_86 : decode cL_isThere 86 = .ok (.iconst 1, 1) := by decide +kernel
theorem dL_isThere_87 : decode cL_isThere 87 = .ok (.invokevirtual 16, 3) := by decide +kernel
theorem dL_isThere_90 : decode cL_isThere 90 = .ok (.iconst 2, 1) := by decide +kernel
theorem dL_isThere_91 : decode cL_isThere 91 = .ok (.invokevirtual 10, 3) := by decide +kernel
theorem dL_isThere_94 : decode cL_isThere 94 = .ok (.iload_n 2, 1) := by decide +kernel
theorem dL_isThere_95 : decode cL_isThere 95 = .ok (.if_icmp .ne 5, 3) := by decide +kernel
theorem dL_isThere_98 : decode cL_isThere 98 = .ok (.iconst 1, 1) := by decide +kernel
theorem dL_isThere_99 : decode cL_isThere 99 = .ok (.ireturn, 1) := by decide +kernel
theorem dL_isThere_100 : decode cL_isThere 100 = .ok (.iinc 6 1, 3) := by decide +kernel
theorem dL_isThere_103 : decode cL_isThere 103 = .ok (.goto (-84), 3) := by decide +kernel
theorem dL_isThere_106 : decode cL_isThere 106 = .ok (.iconst 0, 1) := by decide +kernel
theorem dL_isThere_107 : decode cL_isThere 107 = .ok (.ireturn, 1) := by decide +kernel
set_option maxRecDepth 20000 in
theorem ggL_isRunner_X8_count : GoodIn wsL_isRunner wsX8_count := goodIn_ca (goodIn_r _ [5, 6, 7, 8, 9, 10, 4, 11, 12, 13, 14, 15, 16, 17, 18, 19, 20, 21, 22, 23, 24, 25, 26, 27, 28, 29, 30, 31, 32, 33, 34, 35, 36, 37, 38, 39, 40, 41, 42, 43, 44, 45, 46, 47, 48, 49, 50, 51, 52, 53, 54, 55, 56, 57, 58, 59, 60, 61, 62, 63, 64, 65, 66, 67, 68, 69, 70, 71, 72, 73, 74, 75, 76, 77, 78, 79, 80, 81, 82, 83, 84, 85, 86, 87, 88, 89, 90, 91, 92, 93, 94, 95, 96, 97, 98, 99, 100, 101, 102, 103, 104, 105, 106, 107, 108, 109, 110, 111, 112, 113, 114, 115, 116, 117, 118, 119, 120, 121, 122, 123, 124, 125, 126, 127, 128, 129, 130, 131, 132, 133, 134, 135, 136, 137, 138, 139, 140, 141, 142, 143, 144, 145, 146, 147, 148, 149, 150, 151, 152, 153, 154, 155, 156, 157, 158, 159, 160, 161, 162, 163, 164, 165, 166, 167, 168, 169, 170, 171, 172, 173, 174, 175, 176, 177, 178, 179, 180, 181, 182, 183, 230, 231, 232, 233, 234, 235, 236, 237, 238, 239, 240, 241, 242, 243, 244, 245, 246, 247, 248, 249, 250, 251, 252, 253, 254, 255, 256, 257, 258, 259, 260, 261, 262, 263, 264, 265, 266, 267, 268] (by decide +kernel) (by decide +kernel)) (goodIn_sub (fun _ h => List.mem_cons_of_mem _ (List.mem_append_left _ (List.mem_append_right _ h))) (by decide +kernel))
set_option maxRecDepth 20000 in
theorem gL_isRunner_X8_count : GoodIn wsL_isRunner (wsV RL 31 RX8 yX8_count wsX8_count) := goodIn_app (goodIn_of _ (by decide +kernel)) ggL_isRunner_X8_count
set_option maxRecDepth 20000 in
theorem ggL_isRunner_X8_fewest : GoodIn wsL_isRunner wsX8_fewest := goodIn_ca (goodIn_ca (goodIn_r _ [187, 188, 189, 6, 7, 13, 49, 48, 8, 9, 10, 4, 11, 12, 14, 15, 16, 17, 18, 19, 20, 21, 22, 23, 24, 25, 26, 27, 28, 29, 30, 31, 32, 33, 34, 35, 36, 37, 38, 39, 40, 41, 42, 190, 191, 192, 193, 194, 195, 196, 43, 44, 45, 46, 47, 50, 51, 52, 53, 54, 55, 56, 57, 58, 59, 60, 61, 62, 63, 64, 65, 66, 67, 68, 69, 70, 71, 72, 73, 74, 75, 76, 77, 78, 79, 80, 81, 82, 83, 84, 85, 86, 87, 88, 89, 90, 91, 92, 93, 94, 95, 96, 97, 98, 99, 100, 101, 102, 103, 104, 105, 106, 107, 108, 109, 110, 111, 112, 113, 114, 115, 116, 117, 118, 119, 120, 132, 133, 134, 135, 136, 137, 138, 139, 140, 141, 142, 143, 144, 145, 146, 147, 148, 149, 150, 180, 181, 182, 183, 197, 198, 199, 200, 201, 202, 203, 204, 205, 206, 207, 208, 209, 210, 211, 212, 213, 230, 231, 232, 233, 234, 235, 236, 237, 238, 239, 240, 241, 242, 243, 244, 245, 246, 247, 248, 249, 250, 251, 252, 253, 254, 255, 256, 257, 258, 259, 260, 261, 262, 263, 264, 265, 266] (by decide +kernel) (by decide +kernel)) (goodIn_sub (fun _ h => List.mem_cons_of_mem _ (List.mem_append_right _ h)) (by decide +kernel))) (goodIn_sub (fun _ h => List.mem_cons_of_mem _ (List.mem_append_left _ (List.mem_append_right _ h))) (by decide +kernel))
set_option maxRecDepth 20000 in
theorem gL_isRunner_X8_fewest : GoodIn wsL_isRunner (wsV RL 24 RX8 yX8_fewest wsX8_fewest) := goodIn_app (goodIn_of _ (by decide +kernel)) ggL_isRunner_X8_fewest
set_option maxRecDepth 20000 in
theorem ggL_isRunner_X8_onlyRunning : GoodIn wsL_isRunner wsX8_onlyRunning := goodIn_ca (goodIn_r _ [217, 6, 7, 43, 44, 45, 4, 46, 47, 48, 14, 13, 49, 8, 9, 10, 11, 12, 15, 16, 17, 18, 19, 20, 21, 22, 23, 24, 25, 26, 27, 28, 29, 30, 31, 32, 33, 34, 35, 36, 37, 38, 39, 40, 41, 42, 50, 51, 52, 53, 54, 55, 56, 57, 58, 59, 60, 61, 62, 63, 64, 65, 66, 67, 68, 69, 70, 71, 72, 73, 74, 75, 76, 77, 78, 79, 80, 81, 82, 83, 84, 85, 86, 87, 88, 89, 90, 91, 92, 93, 94, 95, 96, 97, 98, 99, 100, 101, 102, 103, 104, 105, 106, 107, 108, 109, 110, 111, 112, 113, 114, 115, 116, 117, 118, 119, 120, 121, 122, 123, 124, 125, 126, 127, 128, 129, 130, 131, 132, 133, 134, 135, 136, 137, 138, 139, 140, 141, 142, 143, 144, 145, 146, 147, 148, 149, 150, 218, 219, 220, 221, 155, 176, 177, 178, 179, 180, 181, 182, 183, 230, 231, 232, 233, 234, 235, 236, 237, 238, 239, 240, 241, 242, 243, 244, 245, 246, 247, 248, 249, 250, 251, 252, 253, 254, 255, 256, 257, 258, 259, 260, 261, 262, 263, 264, 265, 266] (by decide +kernel) (by decide +kernel)) (goodIn_sub (fun _ h => List.mem_cons_of_mem _ (List.mem_append_left _ (List.mem_append_right _ h))) (by decide +kernel))
set_option maxRecDepth 20000 in
theorem gL_isRunner_X8_onlyRunning : GoodIn wsL_isRunner (wsV RL 41 RX8 yX8_onlyRunning wsX8_onlyRunning) := goodIn_app (goodIn_of _ (by decide +kernel)) ggL_isRunner_X8_onlyRunning
set_option maxRecDepth 20000 in
theorem ggL_isRunner_X8_reachShare : GoodIn wsL_isRunner wsX8_reachShare := goodIn_r _ [225, 43, 44, 45, 4, 46, 47, 48, 14, 13, 49, 8, 9, 10, 11, 12, 15, 16, 17, 18, 19, 20, 21, 22, 23, 24, 25, 26, 27, 28, 29, 30, 31, 32, 33, 34, 35, 36, 37, 38, 39, 40, 41, 42, 50, 51, 52, 53, 54, 55, 56, 57, 58, 59, 60, 61, 62, 63, 64, 65, 66, 67, 68, 69, 70, 71, 72, 73, 74, 75, 76, 77, 78, 79, 80, 81, 82, 83, 84, 85, 86, 87, 88, 89, 90, 91, 92, 93, 94, 95, 96, 97, 98, 99, 100, 101, 102, 103, 104, 105, 106, 107, 108, 109, 110, 111, 112, 113, 114, 115, 116, 117, 118, 119, 120, 121, 122, 123, 124, 125, 126, 127, 128, 129, 130, 131, 132, 133, 134, 135, 136, 137, 138, 139, 140, 141, 142, 143, 144, 145, 146, 147, 148, 149, 150, 226, 227, 228, 229, 155, 172, 173, 174, 175, 176, 177, 178, 179, 180, 181, 182, 183, 230, 231, 232, 233, 234, 235, 236, 237, 238, 239, 240, 241, 242, 243, 244, 245, 246, 247, 248, 249, 250, 251, 252, 253, 254, 255, 256, 257, 258, 259, 260, 261, 262, 263, 264, 265, 266] (by decide +kernel) (by decide +kernel)
set_option maxRecDepth 20000 in
theorem gL_isRunner_X8_reachShare : GoodIn wsL_isRunner (wsV RL 44 RX8 yX8_reachShare wsX8_reachShare) := goodIn_app (goodIn_of _ (by decide +kernel)) ggL_isRunner_X8_reachShare
theorem dL_isRunner_0 : decode cL_isRunner 0 = .ok (.aload_n 0, 1) := by decide +kernel
theorem dL_isRunner_1 : decode cL_isRunner 1 = .ok (.iconst 1, 1) := by decide +kernel
theorem dL_isRunner_2 : decode cL_isRunner 2 = .ok (.invokevirtual 31, 3) := by decide +kernel
theorem dL_isRunner_5 : decode cL_isRunner 5 = .ok (.istore_n 1, 1) := by decide +kernel
theorem dL_isRunner_6 : decode cL_isRunner 6 = .ok (.aload_n 0, 1) := by decide +kernel
theorem dL_isRunner_7 : decode cL_isRunner 7 = .ok (.iconst 4, 1) := by decide +kernel
theorem dL_isRunner_8 : decode cL_isRunner 8 = .ok (.invokevirtual 31, 3) := by decide +kernel
theorem dL_isRunner_11 : decode cL_isRunner 11 = .ok (.istore_n 2, 1) := by decide +kernel
theorem dL_isRunner_12 : decode cL_isRunner 12 = .ok (.iconst 0, 1) := by decide +kernel
theorem dL_isRunner_13 : decode cL_isRunner 13 = .ok (.istore_n 3, 1) := by decide +kernel
theorem dL_isRunner_14 : decode cL_isRunner 14 = .ok (.iconst 0, 1) := by decide +kernel
theorem dL_isRunner_15 : decode cL_isRunner 15 = .ok (.istore 4, 2) := by decide +kernel
theorem dL_isRunner_17 : decode cL_isRunner 17 = .ok (.iconst 0, 1) := by decide +kernel
theorem dL_isRunner_18 : decode cL_isRunner 18 = .ok (.istore 5, 2) := by decide +kernel
theorem dL_isRunner_20 : decode cL_isRunner 20 = .ok (.iload 5, 2) := by decide +kernel
theorem dL_isRunner_22 : decode cL_isRunner 22 = .ok (.iload_n 1, 1) := by decide +kernel
theorem dL_isRunner_23 : decode cL_isRunner 23 = .ok (.if_icmp .ge 74, 3) := by decide +kernel
theorem dL_isRunner_26 : decode cL_isRunner 26 = .ok (.aload_n 0, 1) := by decide +kernel
theorem dL_isRunner_27 : decode cL_isRunner 27 = .ok (.iload_n 2, 1) := by decide +kernel
theorem dL_isRunner_28 : decode cL_isRunner 28 = .ok (.iload 5, 2) := by decide +kernel
theorem dL_isRunner_30 : decode cL_isRunner 30 = .ok (.iconst 3, 1) := by decide +kernel
theorem dL_isRunner_31 : decode cL_isRunner 31 = .ok (.iconst 0, 1) := by decide +kernel
theorem dL_isRunner_32 : decode cL_isRunner 32 = .ok (.invokevirtual 24, 3) := by decide +kernel
theorem dL_isRunner_35 : decode cL_isRunner 35 = .ok (.ifCond .lt 7, 3) := by decide +kernel
theorem dL_isRunner_38 : decode cL_isRunner 38 = .ok (.iconst 1, 1) := by decide +kernel
theorem dL_isRunner_39 : decode cL_isRunner 39 = .ok (.goto 4, 3) := by decide +kernel
theorem dL_isRunner_42 : decode cL_isRunner 42 = .ok (.iconst 0, 1) := by decide +kernel
theorem dL_isRunner_43 : decode cL_isRunner 43 = .ok (.istore 6, 2) := by decide +kernel
theorem dL_isRunner_45 : decode cL_isRunner 45 = .ok (.iload_n 3, 1) := by decide +kernel
theorem dL_isRunner_46 : decode cL_isRunner 46 = .ok (.iload 6, 2) := by decide +kernel
theorem dL_isRunner_48 : decode cL_isRunner 48 = .ok (.ifCond .eq 7, 3) := by decide +kernel
theorem dL_isRunner_51 : decode cL_isRunner 51 = .ok (.iconst 0, 1) := by decide +kernel
theorem dL_isRunner_52 : decode cL_isRunner 52 = .ok (.goto 4, 3) := by decide +kernel
theorem dL_isRunner_55 : decode cL_isRunner 55 = .ok (.iconst 1, 1) := by decide +kernel
theorem dL_isRunner_56 : decode cL_isRunner 56 = .ok (.iadd, 1) := by decide +kernel
theorem dL_isRunner_57 : decode cL_isRunner 57 = .ok (.istore_n 3, 1) := by decide +kernel
theorem dL_isRunner_58 : decode cL_isRunner 58 = .ok (.iload 6, 2) := by decide +kernel
theorem dL_isRunner_60 : decode cL_isRunner 60 = .ok (.ifCond .eq 31, 3) := by decide +kernel
theorem dL_isRunner_63 : decode cL_isRunner 63 = .ok (.aload_n 0, 1) := by decide +kernel
theorem dL_isRunner_64 : decode cL_isRunner 64 = .ok (.iload_n 2, 1) := by decide +kernel
theorem dL_isRunner_65 : decode cL_isRunner 65 = .ok (.iload 5, 2) := by decide +kernel
theorem dL_isRunner_67 : decode cL_isRunner 67 = .ok (.iconst 0, 1) := by decide +kernel
theorem dL_isRunner_68 : decode cL_isRunner 68 = .ok (.iconst 1, 1) := by decide +kernel
theorem dL_isRunner_69 : decode cL_isRunner 69 = .ok (.invokevirtual 24, 3) := by decide +kernel
theorem dL_isRunner_72 : decode cL_isRunner 72 = .ok (.ifCond .ge 19, 3) := by decide +kernel
theorem dL_isRunner_75 : decode cL_isRunner 75 = .ok (.aload_n 0, 1) := by decide +kernel
theorem dL_isRunner_76 : decode cL_isRunner 76 = .ok (.iload 4, 2) := by decide +kernel
theorem dL_isRunner_78 : decode cL_isRunner 78 = .ok (.invokevirtual 41, 3) := by decide +kernel
theorem dL_isRunner_81 : decode cL_isRunner 81 = .ok (.iload 5, 2) := by decide +kernel
theorem dL_isRunner_83 : decode cL_isRunner 83 = .ok (.if_icmp .eq 5, 3) := by decide +kernel
theorem dL_isRunner_86 : decode cL_isRunner 86 = .ok (.iconst 0, 1) := by decide +kernel
theorem dL_isRunner_87 : decode cL_isRunner 87 = .ok (.ireturn, 1) := by decide +kernel
theorem dL_isRunner_88 : decode cL_isRunner 88 = .ok (.iinc 4 1, 3) := by decide +kernel
theorem dL_isRunner_91 : decode cL_isRunner 91 = .ok (.iinc 5 1, 3) := by decide +kernel
theorem dL_isRunner_94 : decode cL_isRunner 94 = .ok (.goto (-74), 3) := by decide +kernel
theorem dL_isRunner_97 : decode cL_isRunner 97 = .ok (.aload_n 0, 1) := by decide +kernel
theorem dL_isRunner_98 : decode cL_isRunner 98 = .ok (.iload 4, 2) := by decide +kernel
theorem dL_isRunner_100 : decode cL_isRunner 100 = .ok (.invokevirtual 41, 3) := by decide +kernel
theorem dL_isRunner_103 : decode cL_isRunner 103 = .ok (.iconst (-1), 1) := by decide +kernel
theorem dL_isRunner_104 : decode cL_isRunner 104 = .ok (.if_icmp .ne 32, 3) := by decide +kernel
theorem dL_isRunner_107 : decode cL_isRunner 107 = .ok (.aload_n 0, 1) := by decide +kernel
theorem dL_isRunner_108 : decode cL_isRunner 108 = .ok (.bipush 8, 2) := by decide +kernel
theorem dL_isRunner_110 : decode cL_isRunner 110 = .ok (.invokevirtual 31, 3) := by decide +kernel
theorem dL_isRunner_113 : decode cL_isRunner 113 = .ok (.iload_n 3, 1) := by decide +kernel
theorem dL_isRunner_114 : decode cL_isRunner 114 = .ok (.if_icmp .ne 22, 3) := by decide +kernel
theorem dL_isRunner_117 : decode cL_isRunner 117 = .ok (.aload_n 0, 1) := by decide +kernel
theorem dL_isRunner_118 : decode cL_isRunner 118 = .ok (.invokevirtual 44, 3) := by decide +kernel
theorem dL_isRunner_121 : decode cL_isRunner 121 = .ok (.iload_n 1, 1) := by decide +kernel
theorem dL_isRunner_122 : decode cL_isRunner 122 = .ok (.iload_n 3, 1) := by decide +kernel
theorem dL_isRunner_123 : decode cL_isRunner 123 = .ok (.isub, 1) := by decide +kernel
theorem dL_isRunner_124 : decode cL_isRunner 124 = .ok (.i2d, 1) := by decide +kernel
theorem dL_isRunner_125 : decode cL_isRunner 125 = .ok (.iload_n 1, 1) := by decide +kernel
theorem dL_isRunner_126 : decode cL_isRunner 126 = .ok (.i2d, 1) := by decide +kernel
theorem dL_isRunner_127 : decode cL_isRunner 127 = .ok (.ddiv, 1) := by decide +kernel
theorem dL_isRunner_128 : decode cL_isRunner 128 = .ok (.dcmp .l, 1) := by decide +kernel
theorem dL_isRunner_129 : decode cL_isRunner 129 = .ok (.ifCond .ne 7, 3) := by decide +kernel
theorem dL_isRunner_132 : decode cL_isRunner 132 = .ok (.iconst 1, 1) := by decide +kernel
theorem dL_isRunner_133 : decode cL_isRunner 133 = .ok (.goto 4, 3) := by decide +kernel
theorem dL_isRunner_136 : decode cL_isRunner 136 = .ok (.iconst 0, 1) := by decide +kernel
theorem dL_isRunner_137 : decode cL_isRunner 137 = .ok (.ireturn, 1) := by decide +kernel
