set_option maxRecDepth 20000 in
theorem ggL_isPair_X8_slowest : GoodIn wsL_isPair wsX8_slowest := goodIn_ca (goodIn_r _ [5, 6, 7, 8, 9, 10, 11, 12, 4, 13, 14, 15, 16, 17, 18, 19, 20, 21, 22, 23, 24, 25, 26, 27, 28, 29, 30, 31, 32, 33, 34, 35, 36, 37, 38, 39, 40, 41, 42, 43, 44, 45, 46, 47, 48, 49, 50, 51, 52, 53, 54, 55, 56, 57, 58, 59, 60, 61, 62, 63, 64, 65, 66, 67, 68, 69, 70, 71, 72, 73, 74, 75, 76, 77, 78, 79, 80, 81, 82, 83, 84, 85, 86, 87, 88, 89, 90, 91, 92, 93, 94, 95, 96, 97, 98, 99, 100, 101, 102, 103, 104, 105, 106, 107, 108, 109, 110, 111, 112, 113, 114, 115, 116, 117, 118, 119, 120, 121, 122, 123, 124, 125, 126, 127, 128, 274, 275, 276, 277, 278, 279, 280, 281, 282, 283, 284, 285, 286, 287, 288, 289, 290, 291, 292, 293, 294, 295, 296, 297, 298, 299, 300, 301, 302, 303, 304, 305, 306, 307, 308, 309, 310] (by decide +kernel) (by decide +kernel)) (goodIn_sub (fun _ h => List.mem_cons_of_mem _ (List.mem_append_left _ (List.mem_append_right _ h))) (by decide +kernel))
set_option maxRecDepth 20000 in
theorem gL_isPair_X8_slowest : GoodIn wsL_isPair (wsV RL 20 RX8 yX8_slowest wsX8_slowest) := goodIn_app (goodIn_of _ (by decide +kernel)) ggL_isPair_X8_slowest
set_option maxRecDepth 20000 in
theorem ggL_isPair_X8_fewest : GoodIn wsL_isPair wsX8_fewest := goodIn_ca (goodIn_ca (goodIn_r _ [132, 6, 7, 133, 134, 8, 53, 9, 10, 11, 12, 4, 13, 14, 15, 16, 17, 18, 19, 20, 21, 22, 23, 24, 25, 26, 27, 28, 29, 30, 31, 32, 33, 34, 35, 36, 37, 38, 39, 40, 41, 42, 43, 44, 45, 46, 47, 135, 136, 137, 48, 49, 50, 51, 52, 54, 55, 56, 57, 58, 59, 60, 61, 62, 63, 64, 65, 66, 67, 68, 69, 70, 71, 72, 73, 74, 75, 76, 77, 78, 79, 80, 81, 82, 83, 84, 85, 86, 87, 88, 89, 90, 91, 92, 93, 94, 95, 96, 97, 98, 99, 100, 101, 102, 103, 104, 105, 106, 107, 108, 109, 110, 111, 112, 113, 114, 115, 116, 117, 118, 119, 120, 121, 122, 123, 124, 138, 139, 140, 141, 142, 143, 144, 145, 146, 147, 148, 149, 150, 151, 152, 153, 126, 127, 128, 154, 155, 156, 157, 158, 159, 160, 161, 162, 163, 164, 165, 166, 167, 168, 169, 170, 171, 172, 173, 174, 274, 275, 276, 277, 278, 279, 280, 281, 282, 283, 284, 285, 286, 287, 288, 289, 290, 291, 292, 293, 294, 295, 296, 297, 298, 299, 300, 301, 302, 303, 304, 305, 306, 307, 308, 309, 310] (by decide +kernel) (by decide +kernel)) (goodIn_sub (fun _ h => List.mem_cons_of_mem _ (List.mem_append_left _ (List.mem_append_right _ h))) (by decide +kernel))) (goodIn_sub (fun _ h => List.mem_cons_of_mem _ (List.mem_append_right _ h)) (by decide +kernel))
set_option maxRecDepth 20000 in
theorem gL_isPair_X8_fewest : GoodIn wsL_isPair (wsV RL 24 RX8 yX8_fewest wsX8_fewest) := goodIn_app (goodIn_of _ (by decide +kernel)) ggL_isPair_X8_fewest
set_option maxRecDepth 20000 in
theorem ggL_isPair_X8_count : GoodIn wsL_isPair wsX8_count := goodIn_ca (goodIn_r _ [178, 133, 134, 10, 11, 12, 4, 13, 14, 8, 15, 16, 17, 18, 19, 20, 21, 22, 23, 24, 25, 26, 27, 28, 29, 30, 31, 32, 33, 34, 35, 36, 37, 38, 39, 40, 41, 42, 43, 48, 49, 50, 51, 52, 9, 53, 54, 55, 56, 57, 58, 59, 60, 61, 62, 63, 64, 65, 66, 67, 68, 69, 70, 71, 72, 73, 74, 75, 76, 77, 78, 79, 80, 81, 82, 83, 84, 85, 86, 87, 88, 89, 90, 91, 92, 93, 94, 95, 96, 97, 98, 99, 100, 101, 102, 103, 104, 105, 106, 107, 108, 109, 110, 111, 112, 113, 114, 115, 116, 117, 118, 119, 120, 121, 122, 123, 124, 179, 180, 181, 182, 183, 184, 185, 186, 187, 188, 189, 138, 139, 140, 141, 142, 143, 144, 145, 146, 147, 148, 149, 150, 151, 152, 153, 126, 127, 128, 190, 191, 192, 193, 194, 195, 196, 197, 198, 199, 200, 201, 202, 203, 204, 205, 206, 207, 208, 209, 210, 211, 212, 213, 214, 215, 216, 217, 218, 154, 155, 156, 157, 274, 275, 276, 277, 278, 279, 280, 281, 282, 283, 284, 285, 286, 287, 288, 289, 290, 291, 292, 293, 294, 295, 296, 297, 298, 299, 300, 301, 302, 303, 304, 305, 306, 307, 308, 309, 310, 311, 312] (by decide +kernel) (by decide +kernel)) (goodIn_sub (fun _ h => List.mem_cons_of_mem _ (List.mem_append_right _ h)) (by decide +kernel))
set_option maxRecDepth 20000 in
theorem gL_isPair_X8_count : GoodIn wsL_isPair (wsV RL 31 RX8 yX8_count wsX8_count) := goodIn_app (goodIn_of _ (by decide +kernel)) ggL_isPair_X8_count
set_option maxRecDepth 20000 in
theorem ggL_isPair_L_isThere : GoodIn wsL_isPair wsL_isThere := goodIn_ca (goodIn_ca (goodIn_r _ [222, 223, 224, 225, 4, 226, 6, 7, 133, 134, 8, 10, 11, 12, 13, 14, 15, 16, 17, 18, 19, 20, 21, 22, 23, 24, 25, 26, 27, 28, 29, 30, 31, 32, 33, 34, 35, 36, 37, 38, 39, 40, 41, 42, 43, 44, 45, 46, 47, 48, 49, 50, 51, 52, 9, 53, 54, 55, 56, 57, 58, 59, 60, 61, 62, 63, 64, 65, 66, 67, 68, 69, 70, 71, 72, 73, 74, 75, 76, 77, 78, 79, 80, 81, 82, 83, 84, 85, 86, 87, 88, 89, 90, 91, 92, 93, 94, 95, 96, 97, 98, 99, 100, 101, 102, 103, 104, 105, 106, 107, 108, 109, 110, 111, 112, 113, 114, 115, 116, 117, 118, 119, 120, 121, 122, 123, 124, 227, 228, 229, 230, 231, 232, 233, 234, 235, 236, 237, 238, 239, 150, 151, 152, 153, 126, 127, 128, 240, 241, 242, 243, 244, 245, 246, 247, 248, 249, 250, 251, 135, 136, 137, 252, 253, 254, 255, 256, 257, 258, 259, 260, 261, 262, 263, 264, 265, 266, 267, 268, 269, 270, 271, 272, 273, 189, 274, 275, 276, 277, 278, 279, 280, 281, 282, 283, 284, 285, 286, 287, 288, 289, 290, 291, 292, 293, 294, 295, 296, 297, 298, 299, 300, 301, 302, 303, 304, 305, 306, 307, 308, 309, 310] (by decide +kernel) (by decide +kernel)) (goodIn_sub (fun _ h => List.mem_cons_of_mem _ (List.mem_append_left _ (List.mem_append_right _ h))) (by decide +kernel))) (goodIn_sub (fun _ h => List.mem_cons_of_mem _ (List.mem_append_right _ h)) (by decide +kernel))
set_option maxRecDepth 20000 in
theorem gL_isPair_L_isThere : GoodIn wsL_isPair (va_wsS RL 35 yL_isThere wsL_isThere) := goodIn_app (goodIn_of _ (by decide +kernel)) ggL_isPair_L_isThere
theorem dL_isPair_0 : decode cL_isPair 0 = .ok (.aload_n 0, 1) := by decide +kernel
theorem dL_isPair_1 : decode cL_isPair 1 = .ok (.iload_n 1, 1) := by decide +kernel
theorem dL_isPair_2 : decode cL_isPair 2 = .ok (.iload_n 2, 1) := by decide +kernel
theorem dL_isPair_3 : decode cL_isPair 3 = .ok (.invokevirtual 20, 3) := by decide +kernel
theorem dL_isPair_6 : decode cL_isPair 6 = .ok (.istore 4, 2) := by decide +kernel
theorem dL_isPair_8 : decode cL_isPair 8 = .ok (.bipush 100, 2) := by decide +kernel
theorem dL_isPair_10 : decode cL_isPair 10 = .ok (.istore 5, 2) := by decide +kernel
theorem dL_isPair_12 : decode cL_isPair 12 = .ok (.iconst 0, 1) := by decide +kernel
theorem dL_isPair_13 : decode cL_isPair 13 = .ok (.istore 6, 2) := by decide +kernel
theorem dL_isPair_15 : decode cL_isPair 15 = .ok (.iload 6, 2) := by decide +kernel
theorem dL_isPair_17 : decode cL_isPair 17 = .ok (.iconst 4, 1) := by decide +kernel
theorem dL_isPair_18 : decode cL_isPair 18 = .ok (.if_icmp .ge 202, 3) := by decide +kernel
theorem dL_isPair_21 : decode cL_isPair 21 = .ok (.aload_n 0, 1) := by decide +kernel
theorem dL_isPair_22 : decode cL_isPair 22 = .ok (.iload_n 1, 1) := by decide +kernel
theorem dL_isPair_23 : decode cL_isPair 23 = .ok (.iload_n 2, 1) := by decide +kernel
theorem dL_isPair_24 : decode cL_isPair 24 = .ok (.iload 6, 2) := by decide +kernel
theorem dL_isPair_26 : decode cL_isPair 26 = .ok (.iconst 0, 1) := by decide +kernel
theorem dL_isPair_27 : decode cL_isPair 27 = .ok (.invokevirtual 24, 3) := by decide +kernel
theorem dL_isPair_30 : decode cL_isPair 30 = .ok (.istore 7, 2) := by decide +kernel
theorem dL_isPair_32 : decode cL_isPair 32 = .ok (.aload_n 0, 1) := by decide +kernel
theorem dL_isPair_33 : decode cL_isPair 33 = .ok (.iload_n 1, 1) := by decide +kernel
theorem dL_isPair_34 : decode cL_isPair 34 = .ok (.iload_n 3, 1) := by decide +kernel
theorem dL_isPair_35 : decode cL_isPair 35 = .ok (.iload 6, 2) := by decide +kernel
theorem dL_isPair_37 : decode cL_isPair 37 = .ok (.iconst 0, 1) := by decide +kernel
theorem dL_isPair_38 : decode cL_isPair 38 = .ok (.invokevirtual 24, 3) := by decide +kernel
theorem dL_isPair_41 : decode cL_isPair 41 = .ok (.istore 8, 2) := by decide +kernel
theorem dL_isPair_43 : decode cL_isPair 43 = .ok (.aload_n 0, 1) := by decide +kernel
theorem dL_isPair_44 : decode cL_isPair 44 = .ok (.iload_n 3, 1) := by decide +kernel
theorem dL_isPair_45 : decode cL_isPair 45 = .ok (.iload_n 2, 1) := by decide +kernel
theorem dL_isPair_46 : decode cL_isPair 46 = .ok (.iload 6, 2) := by decide +kernel
theorem dL_isPair_48 : decode cL_isPair 48 = .ok (.iconst 0, 1) := by decide +kernel
theorem dL_isPair_49 : decode cL_isPair 49 = .ok (.invokevirtual 24, 3) := by decide +kernel
theorem dL_isPair_52 : decode cL_isPair 52 = .ok (.istore 9, 2) := by decide +kernel
theorem dL_isPair_54 : decode cL_isPair 54 = .ok (.iload 7, 2) := by decide +kernel
theorem dL_isPair_56 : decode cL_isPair 56 = .ok (.aload_n 0, 1) := by decide +kernel
theorem dL_isPair_57 : decode cL_isPair 57 = .ok (.iload_n 1, 1) := by decide +kernel
theorem dL_isPair_58 : decode cL_isPair 58 = .ok (.iload_n 2, 1) := by decide +kernel
theorem dL_isPair_59 : decode cL_isPair 59 = .ok (.iload 6, 2) := by decide +kernel
theorem dL_isPair_61 : decode cL_isPair 61 = .ok (.iconst 1, 1) := by decide +kernel
theorem dL_isPair_62 : decode cL_isPair 62 = .ok (.invokevirtual 24, 3) := by decide +kernel
theorem dL_isPair_65 : decode cL_isPair 65 = .ok (.if_icmp .ne 125, 3) := by decide +kernel
theorem dL_isPair_68 : decode cL_isPair 68 = .ok (.iload 7, 2) := by decide +kernel
theorem dL_isPair_70 : decode cL_isPair 70 = .ok (.ifCond .ne 7, 3) := by decide +kernel
theorem dL_isPair_73 : decode cL_isPair 73 = .ok (.iconst 1, 1) := by decide +kernel
theorem dL_isPair_74 : decode cL_isPair 74 = .ok (.goto 4, 3) := by decide +kernel
theorem dL_isPair_77 : decode cL_isPair 77 = .ok (.iconst 0, 1) := by decide +kernel
theorem dL_isPair_78 : decode cL_isPair 78 = .ok (.iload_n 1, 1) := by decide +kernel
theorem dL_isPair_79 : decode cL_isPair 79 = .ok (.iload_n 2, 1) := by decide +kernel
theorem dL_isPair_80 : decode cL_isPair 80 = .ok (.if_icmp .ne 7, 3) := by decide +kernel
theorem dL_isPair_83 : decode cL_isPair 83 = .ok (.iconst 1, 1) := by decide +kernel
theorem dL_isPair_84 : decode cL_isPair 84 = .ok (.goto 4, 3) := by decide +kernel
theorem dL_isPair_87 : decode cL_isPair 87 = .ok (.iconst 0, 1) := by decide +kernel
theorem dL_isPair_88 : decode cL_isPair 88 = .ok (.if_icmp .ne 102, 3) := by decide +kernel
theorem dL_isPair_91 : decode cL_isPair 91 = .ok (.iload 7, 2) := by decide +kernel
theorem dL_isPair_93 : decode cL_isPair 93 = .ok (.iconst 1, 1) := by decide +kernel
theorem dL_isPair_94 : decode cL_isPair 94 = .ok (.if_icmp .ne 7, 3) := by decide +kernel
theorem dL_isPair_97 : decode cL_isPair 97 = .ok (.iconst 1, 1) := by decide +kernel
theorem dL_isPair_98 : decode cL_isPair 98 = .ok (.goto 4, 3) := by decide +kernel
theorem dL_isPair_101 : decode cL_isPair 101 = .ok (.iconst 0, 1) := by decide +kernel
theorem dL_isPair_102 : decode cL_isPair 102 = .ok (.iload_n 1, 1) := by decide +kernel
theorem dL_isPair_103 : decode cL_isPair 103 = .ok (.iload_n 2, 1) := by decide +kernel
theorem dL_isPair_104 : decode cL_isPair 104 = .ok (.if_icmp .eq 19, 3) := by decide +kernel
theorem dL_isPair_107 : decode cL_isPair 107 = .ok (.iload 4, 2) := by decide +kernel
theorem dL_isPair_109 : decode cL_isPair 109 = .ok (.ifCond .lt 14, 3) := by decide +kernel
theorem dL_isPair_112 : decode cL_isPair 112 = .ok (.iload 4, 2) := by decide +kernel
theorem dL_isPair_114 : decode cL_isPair 114 = .ok (.iload 6, 2) := by decide +kernel
theorem dL_isPair_116 : decode cL_isPair 116 = .ok (.if_icmp .gt 7, 3) := by decide +kernel
theorem dL_isPair_119 : decode cL_isPair 119 = .ok (.iconst 1, 1) := by decide +kernel
theorem dL_isPair_120 : decode cL_isPair 120 = .ok (.goto 4, 3) := by decide +kernel
theorem dL_isPair_123 : decode cL_isPair 123 = .ok (.iconst 0, 1) := by decide +kernel
theorem dL_isPair_124 : decode cL_isPair 124 = .ok (.if_icmp .ne 66, 3) := by decide +kernel
theorem dL_isPair_127 : decode cL_isPair 127 = .ok (.iload 7, 2) := by decide +kernel
theorem dL_isPair_129 : decode cL_isPair 129 = .ok (.aload_n 0, 1) := by decide +kernel
theorem dL_isPair_130 : decode cL_isPair 130 = .ok (.iconst 1, 1) := by decide +kernel
theorem dL_isPair_131 : decode cL_isPair 131 = .ok (.invokevirtual 31, 3) := by decide +kernel
theorem dL_isPair_134 : decode cL_isPair 134 = .ok (.if_icmp .ge 56, 3) := by decide +kernel
theorem dL_isPair_137 : decode cL_isPair 137 = .ok (.iload 7, 2) := by decide +kernel
theorem dL_isPair_139 : decode cL_isPair 139 = .ok (.ifCond .ge 10, 3) := by decide +kernel
theorem dL_isPair_142 : decode cL_isPair 142 = .ok (.iload 5, 2) := by decide +kernel
theorem dL_isPair_144 : decode cL_isPair 144 = .ok (.bipush 100, 2) := by decide +kernel
theorem dL_isPair_146 : decode cL_isPair 146 = .ok (.if_icmp .ne 44, 3) := by decide +kernel
theorem dL_isPair_149 : decode cL_isPair 149 = .ok (.iload 7, 2) := by decide +kernel
theorem dL_isPair_151 : decode cL_isPair 151 = .ok (.ifCond .lt 10, 3) := by decide +kernel
theorem dL_isPair_154 : decode cL_isPair 154 = .ok (.iload 7, 2) := by decide +kernel
theorem dL_isPair_156 : decode cL_isPair 156 = .ok (.iload 5, 2) := by decide +kernel
theorem dL_isPair_158 : decode cL_isPair 158 = .ok (.if_icmp .gt 32, 3) := by decide +kernel
theorem dL_isPair_161 : decode cL_isPair 161 = .ok (.iload 8, 2) := by decide +kernel
theorem dL_isPair_163 : decode cL_isPair 163 = .ok (.ifCond .lt 23, 3) := by decide +kernel
theorem dL_isPair_166 : decode cL_isPair 166 = .ok (.iload 9, 2) := by decide +kernel
theorem dL_isPair_168 : decode cL_isPair 168 = .ok (.ifCond .lt 18, 3) := by decide +kernel
theorem dL_isPair_171 : decode cL_isPair 171 = .ok (.iload 7, 2) := by decide +kernel
theorem dL_isPair_173 : decode cL_isPair 173 = .ok (.ifCond .lt 17, 3) := by decide +kernel
theorem dL_isPair_176 : decode cL_isPair 176 = .ok (.iload 7, 2) := by decide +kernel
theorem dL_isPair_178 : decode cL_isPair 178 = .ok (.iload 8, 2) := by decide +kernel
theorem dL_isPair_180 : decode cL_isPair 180 = .ok (.iload 9, 2) := by decide +kernel
theorem dL_isPair_182 : decode cL_isPair 182 = .ok (.iadd, 1) := by decide +kernel
theorem dL_isPair_183 : decode cL_isPair 183 = .ok (.if_icmp .gt 7, 3) := by decide +kernel
theorem dL_isPair_186 : decode cL_isPair 186 = .ok (.iconst 1, 1) := by decide +kernel
theorem dL_isPair_187 : decode cL_isPair 187 = .ok (.goto 4, 3) := by decide +kernel
theorem dL_isPair_190 : decode cL_isPair 190 = .ok (.iconst 0, 1) := by decide +kernel
theorem dL_isPair_191 : decode cL_isPair 191 = .ok (.istore 10, 2) := by decide +kernel
theorem dL_isPair_193 : decode cL_isPair 193 = .ok (.iload 10, 2) := by decide +kernel
theorem dL_isPair_195 : decode cL_isPair 195 = .ok (.ifCond .ne 5, 3) := by decide +kernel
theorem dL_isPair_198 : decode cL_isPair 198 = .ok (.iconst 0, 1) := by decide +kernel
theorem dL_isPair_199 : decode cL_isPair 199 = .ok (.ireturn, 1) := by decide +kernel
theorem dL_isPair_200 : decode cL_isPair 200 = .ok (.iload 7, 2) := by decide +kernel
theorem dL_isPair_202 : decode cL_isPair 202 = .ok (.ifCond .ge 8, 3) := by decide +kernel
theorem dL_isPair_205 : decode cL_isPair 205 = .ok (.iload 5, 2) := by decide +kernel
theorem dL_isPair_207 : decode cL_isPair 207 = .ok (.goto 5, 3) := by decide +kernel
theorem dL_isPair_210 : decode cL_isPair 210 = .ok (.iload 7, 2) := by decide +kernel
theorem dL_isPair_212 : decode cL_isPair 212 = .ok (.istore 5, 2) := by decide +kernel
theorem dL_isPair_214 : decode cL_isPair 214 = .ok (.iinc 6 1, 3) := by decide +kernel
theorem dL_isPair_217 : decode cL_isPair 217 = .ok (.goto (-202), 3) := by decide +kernel
theorem dL_isPair_220 : decode cL_isPair 220 = .ok (.iconst 0, 1) := by decide +kernel
theorem dL_isPair_221 : decode cL_isPair 221 = .ok (.istore 6, 2) := by decide +kernel
theorem dL_isPair_223 : decode cL_isPair 223 = .ok (.iload 6, 2) := by decide +kernel
theorem dL_isPair_225 : decode cL_isPair 225 = .ok (.iconst 4, 1) := by decide +kernel
theorem dL_isPair_226 : decode cL_isPair 226 = .ok (.if_icmp .ge 53, 3) := by decide +kernel
theorem dL_isPair_229 : decode cL_isPair 229 = .ok (.aload_n 0, 1) := by decide +kernel
theorem dL_isPair_230 : decode cL_isPair 230 = .ok (.iload_n 1, 1) := by decide +kernel
theorem dL_isPair_231 : decode cL_isPair 231 = .ok (.iload_n 2, 1) := by decide +kernel
theorem dL_isPair_232 : decode cL_isPair 232 = .ok (.iload 6, 2) := by decide +kernel
theorem dL_isPair_234 : decode cL_isPair 234 = .ok (.invokestatic 35, 3) := by decide +kernel
theorem dL_isPair_237 : decode cL_isPair 237 = .ok (.istore 7, 2) := by decide +kernel
theorem dL_isPair_239 : decode cL_isPair 239 = .ok (.iload 6, 2) := by decide +kernel
theorem dL_isPair_241 : decode cL_isPair 241 = .ok (.iload 4, 2) := by decide +kernel
theorem dL_isPair_243 : decode cL_isPair 243 = .ok (.if_icmp .ne 11, 3) := by decide +kernel
theorem dL_isPair_246 : decode cL_isPair 246 = .ok (.iload 7, 2) := by decide +kernel
theorem dL_isPair_248 : decode cL_isPair 248 = .ok (.ifCond .ne 25, 3) := by decide +kernel
theorem dL_isPair_251 : decode cL_isPair 251 = .ok (.goto 20, 3) := by decide +kernel
theorem dL_isPair_254 : decode cL_isPair 254 = .ok (.iload 7, 2) := by decide +kernel
theorem dL_isPair_256 : decode cL_isPair 256 = .ok (.ifCond .eq 17, 3) := by decide +kernel
theorem dL_isPair_259 : decode cL_isPair 259 = .ok (.iload 4, 2) := by decide +kernel
theorem dL_isPair_261 : decode cL_isPair 261 = .ok (.ifCond .lt 10, 3) := by decide +kernel
theorem dL_isPair_264 : decode cL_isPair 264 = .ok (.iload 6, 2) := by decide +kernel
theorem dL_isPair_266 : decode cL_isPair 266 = .ok (.iload 4, 2) := by decide +kernel
theorem dL_isPair_268 : decode cL_isPair 268 = .ok (.if_icmp .ge 5, 3) := by decide +kernel
theorem dL_isPair_271 : decode cL_isPair 271 = .ok (.iconst 0, 1) := by decide +kernel
theorem dL_isPair_272 : decode cL_isPair 272 = .ok (.ireturn, 1) := by decide +kernel
theorem dL_isPair_273 : decode cL_isPair 273 = .ok (.iinc 6 1, 3) := by decide +kernel
theorem dL_isPair_276 : decode cL_isPair 276 = .ok (.goto (-53), 3) := by decide +kernel
theorem dL_isPair_279 : decode cL_isPair 279 = .ok (.iconst 1, 1) := by decide +kernel
theorem dL_isPair_280 : decode cL_isPair 280 = .ok (.ireturn, 1) := by decide +kernel
