set_option maxRecDepth 20000 in
theorem ggL_leaps_X8_cellOf : GoodIn wsL_leaps wsX8_cellOf := goodIn_ca (goodIn_ca (goodIn_r _ [5, 6, 7, 8, 9, 10, 11, 4, 12, 13, 14, 15, 16, 17, 18, 19, 20, 21, 22, 23, 24, 25, 26, 27, 28, 29, 30, 31, 32, 33, 34, 35, 36, 37, 38, 39, 40, 41, 42, 43, 44, 45, 46, 47, 48, 49, 50, 51, 52, 53, 54, 55, 56, 57, 58, 59, 60, 61, 62, 206, 207, 208, 209, 210, 211, 212, 213, 214, 215, 216, 217, 218, 219, 220, 221, 222, 223, 224, 225, 226, 227] (by decide +kernel) (by decide +kernel)) (goodIn_sub (fun _ h => List.mem_cons_of_mem _ (List.mem_append_left _ (List.mem_append_right _ h))) (by decide +kernel))) (goodIn_sub (fun _ h => List.mem_cons_of_mem _ (List.mem_append_right _ h)) (by decide +kernel))
set_option maxRecDepth 20000 in
theorem gL_leaps_X8_cellOf : GoodIn wsL_leaps (wsV RL 10 RX8 yX8_cellOf wsX8_cellOf) := goodIn_app (goodIn_of _ (by decide +kernel)) ggL_leaps_X8_cellOf
set_option maxRecDepth 20000 in
theorem ggL_leaps_X8_ifLeapt : GoodIn wsL_leaps wsX8_ifLeapt := goodIn_ca (goodIn_ca (goodIn_r _ [66, 6, 7, 8, 9, 10, 11, 4, 12, 67, 68, 69, 70, 71, 72, 73, 74, 75, 76, 19, 77, 78, 79, 80, 81, 82, 58, 59, 60, 30, 61, 62, 28, 29, 31, 32, 33, 34, 35, 36, 83, 84, 85, 86, 87, 88, 89, 90, 91, 92, 93, 94, 95, 96, 97, 98, 99, 46, 47, 100, 101, 102, 103, 104, 105, 106, 107, 108, 109, 110, 111, 112, 113, 114, 115, 206, 207, 208, 209, 210, 211, 212, 213, 214, 215, 228, 229, 230, 231, 232, 233, 234, 221, 222, 223, 224, 225, 226, 227] (by decide +kernel) (by decide +kernel)) (goodIn_sub (fun _ h => List.mem_cons_of_mem _ (List.mem_append_left _ (List.mem_append_right _ h))) (by decide +kernel))) (goodIn_sub (fun _ h => List.mem_cons_of_mem _ (List.mem_append_right _ h)) (by decide +kernel))
set_option maxRecDepth 20000 in
theorem gL_leaps_X8_ifLeapt : GoodIn wsL_leaps (wsV RL 16 RX8 yX8_ifLeapt wsX8_ifLeapt) := goodIn_app (goodIn_of _ (by decide +kernel)) ggL_leaps_X8_ifLeapt
set_option maxRecDepth 20000 in
theorem ggL_leaps_X8_slowest : GoodIn wsL_leaps wsX8_slowest := goodIn_ca (goodIn_r _ [119, 6, 7, 18, 120, 13, 14, 15, 4, 16, 17, 19, 20, 21, 22, 23, 24, 25, 26, 27, 28, 29, 30, 31, 32, 33, 34, 35, 36, 37, 38, 39, 40, 41, 42, 43, 44, 45, 46, 47, 121, 122, 123, 124, 125, 126, 127, 128, 129, 130, 131, 132, 133, 134, 135, 136, 137, 138, 139, 140, 141, 142, 143, 144, 145, 146, 147, 148, 149, 150, 55, 56, 57, 11, 12, 151, 59, 60, 61, 62, 152, 84, 85, 86, 87, 88, 89, 90, 91, 92, 93, 94, 95, 96, 97, 98, 99, 100, 101, 102, 103, 104, 105, 106, 107, 108, 109, 110, 111, 112, 113, 114, 115, 153, 154, 155, 156, 157, 158, 159, 160, 161, 162, 163, 164, 206, 207, 208, 209, 210, 211, 212, 213, 214, 215, 216, 217, 218, 219, 220, 221, 222, 223, 224, 225, 226, 227, 235, 236, 237, 228, 229, 230, 231, 232, 233, 234, 238, 239, 240, 241, 242] (by decide +kernel) (by decide +kernel)) (goodIn_sub (fun _ h => List.mem_cons_of_mem _ (List.mem_append_left _ (List.mem_append_right _ h))) (by decide +kernel))
set_option maxRecDepth 20000 in
theorem gL_leaps_X8_slowest : GoodIn wsL_leaps (wsV RL 20 RX8 yX8_slowest wsX8_slowest) := goodIn_app (goodIn_of _ (by decide +kernel)) ggL_leaps_X8_slowest
set_option maxRecDepth 20000 in
theorem ggL_leaps_X8_fewest : GoodIn wsL_leaps wsX8_fewest := goodIn_ca (goodIn_ca (goodIn_r _ [168, 6, 7, 8, 9, 18, 130, 120, 13, 14, 15, 4, 16, 17, 19, 20, 21, 22, 23, 24, 25, 26, 27, 28, 29, 30, 31, 32, 33, 34, 35, 36, 37, 38, 39, 40, 41, 42, 43, 44, 45, 46, 47, 121, 122, 123, 124, 70, 71, 72, 125, 126, 127, 128, 129, 131, 132, 133, 134, 135, 136, 137, 138, 139, 140, 141, 142, 143, 144, 145, 146, 147, 148, 149, 150, 55, 56, 57, 11, 12, 151, 59, 60, 61, 62, 152, 84, 85, 86, 87, 88, 89, 90, 91, 92, 93, 94, 95, 96, 97, 98, 99, 100, 101, 102, 103, 104, 105, 106, 107, 108, 109, 110, 111, 112, 113, 114, 115, 153, 154, 155, 156, 157, 158, 159, 160, 169, 170, 171, 172, 173, 174, 175, 176, 177, 178, 179, 180, 181, 182, 183, 184, 162, 163, 164, 185, 186, 187, 188, 189, 190, 191, 192, 193, 194, 195, 196, 197, 198, 199, 200, 201, 202, 203, 204, 205, 206, 207, 208, 209, 210, 211, 212, 213, 214, 215, 216, 217, 218, 219, 220, 221, 222, 223, 224, 225, 226, 227, 235, 236, 237, 228, 229, 230, 231, 232, 233, 234, 238, 239, 240, 241, 242] (by decide +kernel) (by decide +kernel)) (goodIn_sub (fun _ h => List.mem_cons_of_mem _ (List.mem_append_left _ (List.mem_append_right _ h))) (by decide +kernel))) (goodIn_sub (fun _ h => List.mem_cons_of_mem _ (List.mem_append_right _ h)) (by decide +kernel))
set_option maxRecDepth 20000 in
theorem gL_leaps_X8_fewest : GoodIn wsL_leaps (wsV RL 24 RX8 yX8_fewest wsX8_fewest) := goodIn_app (goodIn_of _ (by decide +kernel)) ggL_leaps_X8_fewest
theorem dL_leaps_0 : decode cL_leaps 0 = .ok (.aload_n 0, 1) := by decide +kernel
theorem dL_leaps_1 : decode cL_leaps 1 = .ok (.iload_n 1, 1) := by decide +kernel
theorem dL_leaps_2 : decode cL_leaps 2 = .ok (.iload_n 2, 1) := by decide +kernel
theorem dL_leaps_3 : decode cL_leaps 3 = .ok (.iload_n 3, 1) := by decide +kernel
theorem dL_leaps_4 : decode cL_leaps 4 = .ok (.iconst 1, 1) := by decide +kernel
theorem dL_leaps_5 : decode cL_leaps 5 = .ok (.if_icmp .ne 7, 3) := by decide +kernel
theorem dL_leaps_8 : decode cL_leaps 8 = .ok (.iconst 3, 1) := by decide +kernel
theorem dL_leaps_9 : decode cL_leaps 9 = .ok (.goto 4, 3) := by decide +kernel
theorem dL_leaps_12 : decode cL_leaps 12 = .ok (.iconst 4, 1) := by decide +kernel
theorem dL_leaps_13 : decode cL_leaps 13 = .ok (.invokevirtual 10, 3) := by decide +kernel
theorem dL_leaps_16 : decode cL_leaps 16 = .ok (.istore 5, 2) := by decide +kernel
theorem dL_leaps_18 : decode cL_leaps 18 = .ok (.aload_n 0, 1) := by decide +kernel
theorem dL_leaps_19 : decode cL_leaps 19 = .ok (.iload_n 1, 1) := by decide +kernel
theorem dL_leaps_20 : decode cL_leaps 20 = .ok (.iload_n 2, 1) := by decide +kernel
theorem dL_leaps_21 : decode cL_leaps 21 = .ok (.iload_n 3, 1) := by decide +kernel
theorem dL_leaps_22 : decode cL_leaps 22 = .ok (.iload 4, 2) := by decide +kernel
theorem dL_leaps_24 : decode cL_leaps 24 = .ok (.iconst 0, 1) := by decide +kernel
theorem dL_leaps_25 : decode cL_leaps 25 = .ok (.invokevirtual 16, 3) := by decide +kernel
theorem dL_leaps_28 : decode cL_leaps 28 = .ok (.istore 6, 2) := by decide +kernel
theorem dL_leaps_30 : decode cL_leaps 30 = .ok (.iload 4, 2) := by decide +kernel
theorem dL_leaps_32 : decode cL_leaps 32 = .ok (.iload 5, 2) := by decide +kernel
theorem dL_leaps_34 : decode cL_leaps 34 = .ok (.if_icmp .le 29, 3) := by decide +kernel
theorem dL_leaps_37 : decode cL_leaps 37 = .ok (.iload 6, 2) := by decide +kernel
theorem dL_leaps_39 : decode cL_leaps 39 = .ok (.iconst (-1), 1) := by decide +kernel
theorem dL_leaps_40 : decode cL_leaps 40 = .ok (.if_icmp .ne 21, 3) := by decide +kernel
theorem dL_leaps_43 : decode cL_leaps 43 = .ok (.aload_n 0, 1) := by decide +kernel
theorem dL_leaps_44 : decode cL_leaps 44 = .ok (.iload_n 1, 1) := by decide +kernel
theorem dL_leaps_45 : decode cL_leaps 45 = .ok (.iload_n 2, 1) := by decide +kernel
theorem dL_leaps_46 : decode cL_leaps 46 = .ok (.iload_n 3, 1) := by decide +kernel
theorem dL_leaps_47 : decode cL_leaps 47 = .ok (.iload 4, 2) := by decide +kernel
theorem dL_leaps_49 : decode cL_leaps 49 = .ok (.iconst 2, 1) := by decide +kernel
theorem dL_leaps_50 : decode cL_leaps 50 = .ok (.invokevirtual 16, 3) := by decide +kernel
theorem dL_leaps_53 : decode cL_leaps 53 = .ok (.iconst (-1), 1) := by decide +kernel
theorem dL_leaps_54 : decode cL_leaps 54 = .ok (.if_icmp .ne 7, 3) := by decide +kernel
theorem dL_leaps_57 : decode cL_leaps 57 = .ok (.iconst 1, 1) := by decide +kernel
theorem dL_leaps_58 : decode cL_leaps 58 = .ok (.goto 4, 3) := by decide +kernel
theorem dL_leaps_61 : decode cL_leaps 61 = .ok (.iconst 0, 1) := by decide +kernel
theorem dL_leaps_62 : decode cL_leaps 62 = .ok (.ireturn, 1) := by decide +kernel
theorem dL_leaps_63 : decode cL_leaps 63 = .ok (.aload_n 0, 1) := by decide +kernel
theorem dL_leaps_64 : decode cL_leaps 64 = .ok (.iload_n 1, 1) := by decide +kernel
theorem dL_leaps_65 : decode cL_leaps 65 = .ok (.iload_n 2, 1) := by decide +kernel
theorem dL_leaps_66 : decode cL_leaps 66 = .ok (.iload_n 3, 1) := by decide +kernel
theorem dL_leaps_67 : decode cL_leaps 67 = .ok (.iload 4, 2) := by decide +kernel
theorem dL_leaps_69 : decode cL_leaps 69 = .ok (.iconst 1, 1) := by decide +kernel
theorem dL_leaps_70 : decode cL_leaps 70 = .ok (.invokevirtual 16, 3) := by decide +kernel
theorem dL_leaps_73 : decode cL_leaps 73 = .ok (.istore 7, 2) := by decide +kernel
theorem dL_leaps_75 : decode cL_leaps 75 = .ok (.aload_n 0, 1) := by decide +kernel
theorem dL_leaps_76 : decode cL_leaps 76 = .ok (.iload_n 1, 1) := by decide +kernel
theorem dL_leaps_77 : decode cL_leaps 77 = .ok (.iload_n 2, 1) := by decide +kernel
theorem dL_leaps_78 : decode cL_leaps 78 = .ok (.iload_n 3, 1) := by decide +kernel
theorem dL_leaps_79 : decode cL_leaps 79 = .ok (.iload 4, 2) := by decide +kernel
theorem dL_leaps_81 : decode cL_leaps 81 = .ok (.iconst 3, 1) := by decide +kernel
theorem dL_leaps_82 : decode cL_leaps 82 = .ok (.invokevirtual 16, 3) := by decide +kernel
theorem dL_leaps_85 : decode cL_leaps 85 = .ok (.istore 8, 2) := by decide +kernel
theorem dL_leaps_87 : decode cL_leaps 87 = .ok (.aload_n 0, 1) := by decide +kernel
theorem dL_leaps_88 : decode cL_leaps 88 = .ok (.iload_n 1, 1) := by decide +kernel
theorem dL_leaps_89 : decode cL_leaps 89 = .ok (.iload_n 2, 1) := by decide +kernel
theorem dL_leaps_90 : decode cL_leaps 90 = .ok (.iload_n 3, 1) := by decide +kernel
theorem dL_leaps_91 : decode cL_leaps 91 = .ok (.iload 4, 2) := by decide +kernel
theorem dL_leaps_93 : decode cL_leaps 93 = .ok (.iconst 4, 1) := by decide +kernel
theorem dL_leaps_94 : decode cL_leaps 94 = .ok (.invokevirtual 16, 3) := by decide +kernel
theorem dL_leaps_97 : decode cL_leaps 97 = .ok (.istore 9, 2) := by decide +kernel
theorem dL_leaps_99 : decode cL_leaps 99 = .ok (.aload_n 0, 1) := by decide +kernel
theorem dL_leaps_100 : decode cL_leaps 100 = .ok (.iload_n 1, 1) := by decide +kernel
theorem dL_leaps_101 : decode cL_leaps 101 = .ok (.iload_n 2, 1) := by decide +kernel
theorem dL_leaps_102 : decode cL_leaps 102 = .ok (.iload_n 3, 1) := by decide +kernel
theorem dL_leaps_103 : decode cL_leaps 103 = .ok (.iload 4, 2) := by decide +kernel
theorem dL_leaps_105 : decode cL_leaps 105 = .ok (.iconst 2, 1) := by decide +kernel
theorem dL_leaps_106 : decode cL_leaps 106 = .ok (.invokevirtual 16, 3) := by decide +kernel
theorem dL_leaps_109 : decode cL_leaps 109 = .ok (.istore 10, 2) := by decide +kernel
theorem dL_leaps_111 : decode cL_leaps 111 = .ok (.aload_n 0, 1) := by decide +kernel
theorem dL_leaps_112 : decode cL_leaps 112 = .ok (.iload_n 1, 1) := by decide +kernel
theorem dL_leaps_113 : decode cL_leaps 113 = .ok (.iload_n 2, 1) := by decide +kernel
theorem dL_leaps_114 : decode cL_leaps 114 = .ok (.iconst 2, 1) := by decide +kernel
theorem dL_leaps_115 : decode cL_leaps 115 = .ok (.invokevirtual 10, 3) := by decide +kernel
theorem dL_leaps_118 : decode cL_leaps 118 = .ok (.istore 11, 2) := by decide +kernel
theorem dL_leaps_120 : decode cL_leaps 120 = .ok (.aload_n 0, 1) := by decide +kernel
theorem dL_leaps_121 : decode cL_leaps 121 = .ok (.iload 6, 2) := by decide +kernel
theorem dL_leaps_123 : decode cL_leaps 123 = .ok (.iload 7, 2) := by decide +kernel
theorem dL_leaps_125 : decode cL_leaps 125 = .ok (.iconst 2, 1) := by decide +kernel
theorem dL_leaps_126 : decode cL_leaps 126 = .ok (.invokevirtual 10, 3) := by decide +kernel
theorem dL_leaps_129 : decode cL_leaps 129 = .ok (.istore 12, 2) := by decide +kernel
theorem dL_leaps_131 : decode cL_leaps 131 = .ok (.aload_n 0, 1) := by decide +kernel
theorem dL_leaps_132 : decode cL_leaps 132 = .ok (.iload 11, 2) := by decide +kernel
theorem dL_leaps_134 : decode cL_leaps 134 = .ok (.iload 12, 2) := by decide +kernel
theorem dL_leaps_136 : decode cL_leaps 136 = .ok (.invokevirtual 20, 3) := by decide +kernel
theorem dL_leaps_139 : decode cL_leaps 139 = .ok (.istore 13, 2) := by decide +kernel
theorem dL_leaps_141 : decode cL_leaps 141 = .ok (.iload 6, 2) := by decide +kernel
theorem dL_leaps_143 : decode cL_leaps 143 = .ok (.ifCond .lt 147, 3) := by decide +kernel
theorem dL_leaps_146 : decode cL_leaps 146 = .ok (.aload_n 0, 1) := by decide +kernel
theorem dL_leaps_147 : decode cL_leaps 147 = .ok (.iload 6, 2) := by decide +kernel
theorem dL_leaps_149 : decode cL_leaps 149 = .ok (.iload 7, 2) := by decide +kernel
theorem dL_leaps_151 : decode cL_leaps 151 = .ok (.iconst 1, 1) := by decide +kernel
theorem dL_leaps_152 : decode cL_leaps 152 = .ok (.invokevirtual 10, 3) := by decide +kernel
theorem dL_leaps_155 : decode cL_leaps 155 = .ok (.iconst 1, 1) := by decide +kernel
theorem dL_leaps_156 : decode cL_leaps 156 = .ok (.if_icmp .ne 134, 3) := by decide +kernel
theorem dL_leaps_159 : decode cL_leaps 159 = .ok (.iload 8, 2) := by decide +kernel
theorem dL_leaps_161 : decode cL_leaps 161 = .ok (.iload_n 2, 1) := by decide +kernel
theorem dL_leaps_162 : decode cL_leaps 162 = .ok (.if_icmp .lt 128, 3) := by decide +kernel
theorem dL_leaps_165 : decode cL_leaps 165 = .ok (.iload 8, 2) := by decide +kernel
theorem dL_leaps_167 : decode cL_leaps 167 = .ok (.iload 7, 2) := by decide +kernel
theorem dL_leaps_169 : decode cL_leaps 169 = .ok (.if_icmp .lt 121, 3) := by decide +kernel
theorem dL_leaps_172 : decode cL_leaps 172 = .ok (.iload 8, 2) := by decide +kernel
theorem dL_leaps_174 : decode cL_leaps 174 = .ok (.bipush 9, 2) := by decide +kernel
theorem dL_leaps_176 : decode cL_leaps 176 = .ok (.if_icmp .gt 114, 3) := by decide +kernel
theorem dL_leaps_179 : decode cL_leaps 179 = .ok (.iload 10, 2) := by decide +kernel
theorem dL_leaps_181 : decode cL_leaps 181 = .ok (.iconst 1, 1) := by decide +kernel
theorem dL_leaps_182 : decode cL_leaps 182 = .ok (.if_icmp .le 108, 3) := by decide +kernel
theorem dL_leaps_185 : decode cL_leaps 185 = .ok (.iload_n 3, 1) := by decide +kernel
theorem dL_leaps_186 : decode cL_leaps 186 = .ok (.iconst 1, 1) := by decide +kernel
theorem dL_leaps_187 : decode cL_leaps 187 = .ok (.if_icmp .ne 12, 3) := by decide +kernel
theorem dL_leaps_190 : decode cL_leaps 190 = .ok (.iload 6, 2) := by decide +kernel
theorem dL_leaps_192 : decode cL_leaps 192 = .ok (.iload_n 1, 1) := by decide +kernel
theorem dL_leaps_193 : decode cL_leaps 193 = .ok (.if_icmp .lt 97, 3) := by decide +kernel
theorem dL_leaps_196 : decode cL_leaps 196 = .ok (.goto 9, 3) := by decide +kernel
theorem dL_leaps_199 : decode cL_leaps 199 = .ok (.iload 6, 2) := by decide +kernel
theorem dL_leaps_201 : decode cL_leaps 201 = .ok (.iload_n 1, 1) := by decide +kernel
theorem dL_leaps_202 : decode cL_leaps 202 = .ok (.if_icmp .gt 88, 3) := by decide +kernel
theorem dL_leaps_205 : decode cL_leaps 205 = .ok (.iload 6, 2) := by decide +kernel
theorem dL_leaps_207 : decode cL_leaps 207 = .ok (.iload_n 1, 1) := by decide +kernel
theorem dL_leaps_208 : decode cL_leaps 208 = .ok (.isub, 1) := by decide +kernel
theorem dL_leaps_209 : decode cL_leaps 209 = .ok (.iload_n 3, 1) := by decide +kernel
theorem dL_leaps_210 : decode cL_leaps 210 = .ok (.imul, 1) := by decide +kernel
theorem dL_leaps_211 : decode cL_leaps 211 = .ok (.iload 4, 2) := by decide +kernel
theorem dL_leaps_213 : decode cL_leaps 213 = .ok (.iconst 1, 1) := by decide +kernel
theorem dL_leaps_214 : decode cL_leaps 214 = .ok (.iadd, 1) := by decide +kernel
theorem dL_leaps_215 : decode cL_leaps 215 = .ok (.iload 10, 2) := by decide +kernel
theorem dL_leaps_217 : decode cL_leaps 217 = .ok (.imul, 1) := by decide +kernel
theorem dL_leaps_218 : decode cL_leaps 218 = .ok (.if_icmp .gt 72, 3) := by decide +kernel
theorem dL_leaps_221 : decode cL_leaps 221 = .ok (.iload 9, 2) := by decide +kernel
theorem dL_leaps_223 : decode cL_leaps 223 = .ok (.iconst 1, 1) := by decide +kernel
theorem dL_leaps_224 : decode cL_leaps 224 = .ok (.if_icmp .eq 19, 3) := by decide +kernel
theorem dL_leaps_227 : decode cL_leaps 227 = .ok (.iload 6, 2) := by decide +kernel
theorem dL_leaps_229 : decode cL_leaps 229 = .ok (.iload_n 1, 1) := by decide +kernel
theorem dL_leaps_230 : decode cL_leaps 230 = .ok (.isub, 1) := by decide +kernel
theorem dL_leaps_231 : decode cL_leaps 231 = .ok (.iload_n 3, 1) := by decide +kernel
theorem dL_leaps_232 : decode cL_leaps 232 = .ok (.imul, 1) := by decide +kernel
theorem dL_leaps_233 : decode cL_leaps 233 = .ok (.iload 4, 2) := by decide +kernel
theorem dL_leaps_235 : decode cL_leaps 235 = .ok (.iconst 1, 1) := by decide +kernel
theorem dL_leaps_236 : decode cL_leaps 236 = .ok (.iadd, 1) := by decide +kernel
theorem dL_leaps_237 : decode cL_leaps 237 = .ok (.iload 10, 2) := by decide +kernel
theorem dL_leaps_239 : decode cL_leaps 239 = .ok (.imul, 1) := by decide +kernel
theorem dL_leaps_240 : decode cL_leaps 240 = .ok (.if_icmp .ne 50, 3) := by decide +kernel
theorem dL_leaps_243 : decode cL_leaps 243 = .ok (.iload 12, 2) := by decide +kernel
theorem dL_leaps_245 : decode cL_leaps 245 = .ok (.ifCond .lt 45, 3) := by decide +kernel
theorem dL_leaps_248 : decode cL_leaps 248 = .ok (.iload 13, 2) := by decide +kernel
theorem dL_leaps_250 : decode cL_leaps 250 = .ok (.ifCond .lt 40, 3) := by decide +kernel
theorem dL_leaps_253 : decode cL_leaps 253 = .ok (.iload 13, 2) := by decide +kernel
theorem dL_leaps_255 : decode cL_leaps 255 = .ok (.iload 4, 2) := by decide +kernel
theorem dL_leaps_257 : decode cL_leaps 257 = .ok (.if_icmp .gt 33, 3) := by decide +kernel
theorem dL_leaps_260 : decode cL_leaps 260 = .ok (.aload_n 0, 1) := by decide +kernel
theorem dL_leaps_261 : decode cL_leaps 261 = .ok (.iload 11, 2) := by decide +kernel
theorem dL_leaps_263 : decode cL_leaps 263 = .ok (.iload 12, 2) := by decide +kernel
theorem dL_leaps_265 : decode cL_leaps 265 = .ok (.iload 4, 2) := by decide +kernel
theorem dL_leaps_267 : decode cL_leaps 267 = .ok (.iconst 0, 1) := by decide +kernel
theorem dL_leaps_268 : decode cL_leaps 268 = .ok (.invokevirtual 24, 3) := by decide +kernel
theorem dL_leaps_271 : decode cL_leaps 271 = .ok (.iload 11, 2) := by decide +kernel
theorem dL_leaps_273 : decode cL_leaps 273 = .ok (.iload 12, 2) := by decide +kernel
theorem dL_leaps_275 : decode cL_leaps 275 = .ok (.if_icmp .ne 7, 3) := by decide +kernel
theorem dL_leaps_278 : decode cL_leaps 278 = .ok (.iconst 0, 1) := by decide +kernel
theorem dL_leaps_279 : decode cL_leaps 279 = .ok (.goto 4, 3) := by decide +kernel
theorem dL_leaps_282 : decode cL_leaps 282 = .ok (.iconst 1, 1) := by decide +kernel
theorem dL_leaps_283 : decode cL_leaps 283 = .ok (.if_icmp .ne 7, 3) := by decide +kernel
theorem dL_leaps_286 : decode cL_leaps 286 = .ok (.iconst 1, 1) := by decide +kernel
theorem dL_leaps_287 : decode cL_leaps 287 = .ok (.goto 4, 3) := by decide +kernel
theorem dL_leaps_290 : decode cL_leaps 290 = .ok (.iconst 0, 1) := by decide +kernel
theorem dL_leaps_291 : decode cL_leaps 291 = .ok (.ireturn, 1) := by decide +kernel
