set_option maxRecDepth 20000 in
theorem ggL_holds_X8_cellOf : GoodIn wsL_holds wsX8_cellOf := goodIn_ca (goodIn_ca (goodIn_r _ [5, 6, 7, 8, 9, 10, 11, 4, 12, 13, 14, 15, 16, 17, 18, 19, 20, 21, 22, 23, 24, 25, 26, 27, 28, 29, 30, 31, 32, 33, 34, 35, 36, 37, 38, 39, 40, 41, 42, 43, 44, 45, 46, 47, 48, 49, 50, 51, 52, 53, 54, 55, 56, 57, 58, 59, 60, 61, 62, 223, 224, 225, 226, 227, 228, 229, 230, 231, 232, 233, 234, 235, 236, 237, 238, 239, 240, 241, 242, 243, 244] (by decide +kernel) (by decide +kernel)) (goodIn_sub (fun _ h => List.mem_cons_of_mem _ (List.mem_append_left _ (List.mem_append_right _ h))) (by decide +kernel))) (goodIn_sub (fun _ h => List.mem_cons_of_mem _ (List.mem_append_right _ h)) (by decide +kernel))
set_option maxRecDepth 20000 in
theorem gL_holds_X8_cellOf : GoodIn wsL_holds (wsV RL 10 RX8 yX8_cellOf wsX8_cellOf) := goodIn_app (goodIn_of _ (by decide +kernel)) ggL_holds_X8_cellOf
set_option maxRecDepth 20000 in
theorem ggL_holds_X8_count : GoodIn wsL_holds wsX8_count := goodIn_ca (goodIn_r _ [66, 8, 9, 13, 14, 15, 4, 16, 17, 18, 19, 20, 21, 22, 23, 24, 25, 26, 27, 28, 29, 30, 31, 32, 33, 34, 35, 36, 37, 38, 39, 40, 41, 42, 43, 44, 45, 46, 47, 67, 68, 69, 70, 71, 72, 73, 74, 75, 76, 77, 78, 79, 80, 81, 82, 83, 84, 85, 86, 87, 88, 89, 90, 91, 92, 93, 55, 56, 57, 11, 12, 94, 59, 60, 61, 62, 95, 96, 97, 98, 99, 100, 101, 102, 103, 104, 105, 106, 107, 108, 109, 110, 111, 112, 113, 114, 115, 116, 117, 118, 119, 120, 121, 122, 123, 124, 125, 126, 127, 128, 129, 130, 131, 132, 133, 134, 135, 136, 137, 138, 139, 140, 141, 142, 143, 144, 145, 54, 146, 147, 148, 149, 150, 151, 152, 153, 154, 155, 156, 157, 158, 159, 160, 161, 162, 163, 164, 165, 166, 167, 168, 169, 170, 171, 172, 173, 174, 175, 176, 177, 178, 179, 180, 181, 182, 183, 184, 185, 186, 187, 188, 189, 190, 191, 192, 193, 194, 195, 196, 197, 223, 224, 225, 226, 227, 228, 229, 230, 231, 232, 233, 234, 235, 236, 237, 238, 239, 240, 241, 242, 243, 244, 245, 246, 247, 248, 249, 250, 251, 252, 253, 254, 255, 256, 257, 258, 259, 260, 261] (by decide +kernel) (by decide +kernel)) (goodIn_sub (fun _ h => List.mem_cons_of_mem _ (List.mem_append_right _ h)) (by decide +kernel))
set_option maxRecDepth 20000 in
theorem gL_holds_X8_count : GoodIn wsL_holds (wsV RL 31 RX8 yX8_count wsX8_count) := goodIn_app (goodIn_of _ (by decide +kernel)) ggL_holds_X8_count
set_option maxRecDepth 20000 in
theorem ggL_holds_X8_ledgeOf : GoodIn wsL_holds wsX8_ledgeOf := goodIn_ca (goodIn_ca (goodIn_r _ [201, 6, 7, 8, 9, 18, 13, 14, 15, 4, 16, 17, 19, 20, 21, 22, 23, 24, 25, 26, 27, 28, 29, 30, 31, 32, 33, 34, 35, 36, 37, 38, 39, 40, 41, 42, 43, 44, 45, 46, 47, 202, 203, 204, 205, 67, 68, 69, 70, 71, 72, 73, 74, 75, 76, 77, 78, 79, 80, 81, 82, 83, 84, 85, 86, 87, 88, 89, 90, 91, 92, 93, 55, 56, 57, 11, 12, 94, 59, 60, 61, 62, 95, 96, 97, 98, 99, 100, 101, 102, 103, 104, 105, 106, 107, 108, 109, 110, 111, 112, 113, 114, 115, 116, 117, 118, 119, 120, 121, 122, 123, 124, 125, 126, 127, 128, 129, 130, 131, 132, 133, 134, 135, 206, 207, 208, 209, 210, 211, 212, 213, 214, 215, 216, 217, 218, 158, 159, 160, 161, 162, 163, 164, 219, 220, 221, 222, 223, 224, 225, 226, 227, 228, 229, 230, 231, 232, 233, 234, 235, 236, 237, 238, 239, 240, 241, 242, 243, 244, 245, 246, 247, 248, 249, 250, 251, 252, 253, 254, 255, 256, 257, 258, 259] (by decide +kernel) (by decide +kernel)) (goodIn_sub (fun _ h => List.mem_cons_of_mem _ (List.mem_append_left _ (List.mem_append_right _ h))) (by decide +kernel))) (goodIn_sub (fun _ h => List.mem_cons_of_mem _ (List.mem_append_right _ h)) (by decide +kernel))
set_option maxRecDepth 20000 in
theorem gL_holds_X8_ledgeOf : GoodIn wsL_holds (wsV RL 28 RX8 yX8_ledgeOf wsX8_ledgeOf) := goodIn_app (goodIn_of _ (by decide +kernel)) ggL_holds_X8_ledgeOf
theorem dL_holds_0 : decode cL_holds 0 = .ok (.iconst 0, 1) := by decide +kernel
theorem dL_holds_1 : decode cL_holds 1 = .ok (.istore_n 1, 1) := by decide +kernel
theorem dL_holds_2 : decode cL_holds 2 = .ok (.iconst 0, 1) := by decide +kernel
theorem dL_holds_3 : decode cL_holds 3 = .ok (.istore_n 2, 1) := by decide +kernel
theorem dL_holds_4 : decode cL_holds 4 = .ok (.iconst 0, 1) := by decide +kernel
theorem dL_holds_5 : decode cL_holds 5 = .ok (.istore_n 3, 1) := by decide +kernel
theorem dL_holds_6 : decode cL_holds 6 = .ok (.iconst 0, 1) := by decide +kernel
theorem dL_holds_7 : decode cL_holds 7 = .ok (.istore 4, 2) := by decide +kernel
theorem dL_holds_9 : decode cL_holds 9 = .ok (.iconst 0, 1) := by decide +kernel
theorem dL_holds_10 : decode cL_holds 10 = .ok (.istore 5, 2) := by decide +kernel
theorem dL_holds_12 : decode cL_holds 12 = .ok (.iconst 0, 1) := by decide +kernel
theorem dL_holds_13 : decode cL_holds 13 = .ok (.istore 6, 2) := by decide +kernel
theorem dL_holds_15 : decode cL_holds 15 = .ok (.iload 6, 2) := by decide +kernel
theorem dL_holds_17 : decode cL_holds 17 = .ok (.sipush 200, 3) := by decide +kernel
theorem dL_holds_20 : decode cL_holds 20 = .ok (.if_icmp .ge 45, 3) := by decide +kernel
theorem dL_holds_23 : decode cL_holds 23 = .ok (.iload_n 2, 1) := by decide +kernel
theorem dL_holds_24 : decode cL_holds 24 = .ok (.aload_n 0, 1) := by decide +kernel
theorem dL_holds_25 : decode cL_holds 25 = .ok (.iload 6, 2) := by decide +kernel
theorem dL_holds_27 : decode cL_holds 27 = .ok (.bipush 20, 2) := by decide +kernel
theorem dL_holds_29 : decode cL_holds 29 = .ok (.irem, 1) := by decide +kernel
theorem dL_holds_30 : decode cL_holds 30 = .ok (.iload 6, 2) := by decide +kernel
theorem dL_holds_32 : decode cL_holds 32 = .ok (.bipush 20, 2) := by decide +kernel
theorem dL_holds_34 : decode cL_holds 34 = .ok (.idiv, 1) := by decide +kernel
theorem dL_holds_35 : decode cL_holds 35 = .ok (.iconst 1, 1) := by decide +kernel
theorem dL_holds_36 : decode cL_holds 36 = .ok (.invokevirtual 10, 3) := by decide +kernel
theorem dL_holds_39 : decode cL_holds 39 = .ok (.iadd, 1) := by decide +kernel
theorem dL_holds_40 : decode cL_holds 40 = .ok (.istore_n 2, 1) := by decide +kernel
theorem dL_holds_41 : decode cL_holds 41 = .ok (.iload_n 3, 1) := by decide +kernel
theorem dL_holds_42 : decode cL_holds 42 = .ok (.aload_n 0, 1) := by decide +kernel
theorem dL_holds_43 : decode cL_holds 43 = .ok (.iload 6, 2) := by decide +kernel
theorem dL_holds_45 : decode cL_holds 45 = .ok (.bipush 20, 2) := by decide +kernel
theorem dL_holds_47 : decode cL_holds 47 = .ok (.irem, 1) := by decide +kernel
theorem dL_holds_48 : decode cL_holds 48 = .ok (.iload 6, 2) := by decide +kernel
theorem dL_holds_50 : decode cL_holds 50 = .ok (.bipush 20, 2) := by decide +kernel
theorem dL_holds_52 : decode cL_holds 52 = .ok (.idiv, 1) := by decide +kernel
theorem dL_holds_53 : decode cL_holds 53 = .ok (.iconst 0, 1) := by decide +kernel
theorem dL_holds_54 : decode cL_holds 54 = .ok (.invokevirtual 10, 3) := by decide +kernel
theorem dL_holds_57 : decode cL_holds 57 = .ok (.iadd, 1) := by decide +kernel
theorem dL_holds_58 : decode cL_holds 58 = .ok (.istore_n 3, 1) := by decide +kernel
theorem dL_holds_59 : decode cL_holds 59 = .ok (.iinc 6 1, 3) := by decide +kernel
theorem dL_holds_62 : decode cL_holds 62 = .ok (.goto (-47), 3) := by decide +kernel
theorem dL_holds_65 : decode cL_holds 65 = .ok (.iconst 0, 1) := by decide +kernel
theorem dL_holds_66 : decode cL_holds 66 = .ok (.istore 6, 2) := by decide +kernel
theorem dL_holds_68 : decode cL_holds 68 = .ok (.iload 6, 2) := by decide +kernel
theorem dL_holds_70 : decode cL_holds 70 = .ok (.aload_n 0, 1) := by decide +kernel
theorem dL_holds_71 : decode cL_holds 71 = .ok (.iconst 1, 1) := by decide +kernel
theorem dL_holds_72 : decode cL_holds 72 = .ok (.invokevirtual 31, 3) := by decide +kernel
theorem dL_holds_75 : decode cL_holds 75 = .ok (.if_icmp .ge 86, 3) := by decide +kernel
theorem dL_holds_78 : decode cL_holds 78 = .ok (.iload_n 1, 1) := by decide +kernel
theorem dL_holds_79 : decode cL_holds 79 = .ok (.aload_n 0, 1) := by decide +kernel
theorem dL_holds_80 : decode cL_holds 80 = .ok (.iload 6, 2) := by decide +kernel
theorem dL_holds_82 : decode cL_holds 82 = .ok (.iconst 2, 1) := by decide +kernel
theorem dL_holds_83 : decode cL_holds 83 = .ok (.invokevirtual 28, 3) := by decide +kernel
theorem dL_holds_86 : decode cL_holds 86 = .ok (.iadd, 1) := by decide +kernel
theorem dL_holds_87 : decode cL_holds 87 = .ok (.istore_n 1, 1) := by decide +kernel
theorem dL_holds_88 : decode cL_holds 88 = .ok (.iload 4, 2) := by decide +kernel
theorem dL_holds_90 : decode cL_holds 90 = .ok (.aload_n 0, 1) := by decide +kernel
theorem dL_holds_91 : decode cL_holds 91 = .ok (.iload 6, 2) := by decide +kernel
theorem dL_holds_93 : decode cL_holds 93 = .ok (.iconst 3, 1) := by decide +kernel
theorem dL_holds_94 : decode cL_holds 94 = .ok (.invokevirtual 28, 3) := by decide +kernel
theorem dL_holds_97 : decode cL_holds 97 = .ok (.iadd, 1) := by decide +kernel
theorem dL_holds_98 : decode cL_holds 98 = .ok (.istore 4, 2) := by decide +kernel
theorem dL_holds_100 : decode cL_holds 100 = .ok (.iload 5, 2) := by decide +kernel
theorem dL_holds_102 : decode cL_holds 102 = .ok (.aload_n 0, 1) := by decide +kernel
theorem dL_holds_103 : decode cL_holds 103 = .ok (.iload 6, 2) := by decide +kernel
theorem dL_holds_105 : decode cL_holds 105 = .ok (.iconst 5, 1) := by decide +kernel
theorem dL_holds_106 : decode cL_holds 106 = .ok (.invokevirtual 28, 3) := by decide +kernel
theorem dL_holds_109 : decode cL_holds 109 = .ok (.iadd, 1) := by decide +kernel
theorem dL_holds_110 : decode cL_holds 110 = .ok (.istore 5, 2) := by decide +kernel
theorem dL_holds_112 : decode cL_holds 112 = .ok (.aload_n 0, 1) := by decide +kernel
theorem dL_holds_113 : decode cL_holds 113 = .ok (.iload 6, 2) := by decide +kernel
theorem dL_holds_115 : decode cL_holds 115 = .ok (.iconst 4, 1) := by decide +kernel
theorem dL_holds_116 : decode cL_holds 116 = .ok (.invokevirtual 28, 3) := by decide +kernel
theorem dL_holds_119 : decode cL_holds 119 = .ok (.aload_n 0, 1) := by decide +kernel
theorem dL_holds_120 : decode cL_holds 120 = .ok (.iload 6, 2) := by decide +kernel
theorem dL_holds_122 : decode cL_holds 122 = .ok (.iconst 3, 1) := by decide +kernel
theorem dL_holds_123 : decode cL_holds 123 = .ok (.invokevirtual 28, 3) := by decide +kernel
theorem dL_holds_126 : decode cL_holds 126 = .ok (.if_icmp .gt 27, 3) := by decide +kernel
theorem dL_holds_129 : decode cL_holds 129 = .ok (.aload_n 0, 1) := by decide +kernel
theorem dL_holds_130 : decode cL_holds 130 = .ok (.aload_n 0, 1) := by decide +kernel
theorem dL_holds_131 : decode cL_holds 131 = .ok (.iload 6, 2) := by decide +kernel
theorem dL_holds_133 : decode cL_holds 133 = .ok (.iconst 1, 1) := by decide +kernel
theorem dL_holds_134 : decode cL_holds 134 = .ok (.invokevirtual 28, 3) := by decide +kernel
theorem dL_holds_137 : decode cL_holds 137 = .ok (.aload_n 0, 1) := by decide +kernel
theorem dL_holds_138 : decode cL_holds 138 = .ok (.iload 6, 2) := by decide +kernel
theorem dL_holds_140 : decode cL_holds 140 = .ok (.iconst 0, 1) := by decide +kernel
theorem dL_holds_141 : decode cL_holds 141 = .ok (.invokevirtual 28, 3) := by decide +kernel
theorem dL_holds_144 : decode cL_holds 144 = .ok (.iconst 2, 1) := by decide +kernel
theorem dL_holds_145 : decode cL_holds 145 = .ok (.invokevirtual 10, 3) := by decide +kernel
theorem dL_holds_148 : decode cL_holds 148 = .ok (.iload 6, 2) := by decide +kernel
theorem dL_holds_150 : decode cL_holds 150 = .ok (.if_icmp .eq 5, 3) := by decide +kernel
theorem dL_holds_153 : decode cL_holds 153 = .ok (.iconst 0, 1) := by decide +kernel
theorem dL_holds_154 : decode cL_holds 154 = .ok (.ireturn, 1) := by decide +kernel
theorem dL_holds_155 : decode cL_holds 155 = .ok (.iinc 6 1, 3) := by decide +kernel
theorem dL_holds_158 : decode cL_holds 158 = .ok (.goto (-90), 3) := by decide +kernel
theorem dL_holds_161 : decode cL_holds 161 = .ok (.iload_n 1, 1) := by decide +kernel
theorem dL_holds_162 : decode cL_holds 162 = .ok (.iload_n 2, 1) := by decide +kernel
theorem dL_holds_163 : decode cL_holds 163 = .ok (.if_icmp .ne 79, 3) := by decide +kernel
theorem dL_holds_166 : decode cL_holds 166 = .ok (.iload_n 3, 1) := by decide +kernel
theorem dL_holds_167 : decode cL_holds 167 = .ok (.aload_n 0, 1) := by decide +kernel
theorem dL_holds_168 : decode cL_holds 168 = .ok (.iconst 0, 1) := by decide +kernel
theorem dL_holds_169 : decode cL_holds 169 = .ok (.invokevirtual 31, 3) := by decide +kernel
theorem dL_holds_172 : decode cL_holds 172 = .ok (.if_icmp .ne 70, 3) := by decide +kernel
theorem dL_holds_175 : decode cL_holds 175 = .ok (.iload 4, 2) := by decide +kernel
theorem dL_holds_177 : decode cL_holds 177 = .ok (.iload 5, 2) := by decide +kernel
theorem dL_holds_179 : decode cL_holds 179 = .ok (.if_icmp .ne 63, 3) := by decide +kernel
theorem dL_holds_182 : decode cL_holds 182 = .ok (.aload_n 0, 1) := by decide +kernel
theorem dL_holds_183 : decode cL_holds 183 = .ok (.aload_n 0, 1) := by decide +kernel
theorem dL_holds_184 : decode cL_holds 184 = .ok (.iconst 2, 1) := by decide +kernel
theorem dL_holds_185 : decode cL_holds 185 = .ok (.invokevirtual 31, 3) := by decide +kernel
theorem dL_holds_188 : decode cL_holds 188 = .ok (.aload_n 0, 1) := by decide +kernel
theorem dL_holds_189 : decode cL_holds 189 = .ok (.iconst 3, 1) := by decide +kernel
theorem dL_holds_190 : decode cL_holds 190 = .ok (.invokevirtual 31, 3) := by decide +kernel
theorem dL_holds_193 : decode cL_holds 193 = .ok (.iconst 1, 1) := by decide +kernel
theorem dL_holds_194 : decode cL_holds 194 = .ok (.invokevirtual 10, 3) := by decide +kernel
theorem dL_holds_197 : decode cL_holds 197 = .ok (.iconst 1, 1) := by decide +kernel
theorem dL_holds_198 : decode cL_holds 198 = .ok (.if_icmp .ne 44, 3) := by decide +kernel
theorem dL_holds_201 : decode cL_holds 201 = .ok (.aload_n 0, 1) := by decide +kernel
theorem dL_holds_202 : decode cL_holds 202 = .ok (.aload_n 0, 1) := by decide +kernel
theorem dL_holds_203 : decode cL_holds 203 = .ok (.iconst 2, 1) := by decide +kernel
theorem dL_holds_204 : decode cL_holds 204 = .ok (.invokevirtual 31, 3) := by decide +kernel
theorem dL_holds_207 : decode cL_holds 207 = .ok (.aload_n 0, 1) := by decide +kernel
theorem dL_holds_208 : decode cL_holds 208 = .ok (.iconst 3, 1) := by decide +kernel
theorem dL_holds_209 : decode cL_holds 209 = .ok (.invokevirtual 31, 3) := by decide +kernel
theorem dL_holds_212 : decode cL_holds 212 = .ok (.iconst 2, 1) := by decide +kernel
theorem dL_holds_213 : decode cL_holds 213 = .ok (.invokevirtual 10, 3) := by decide +kernel
theorem dL_holds_216 : decode cL_holds 216 = .ok (.aload_n 0, 1) := by decide +kernel
theorem dL_holds_217 : decode cL_holds 217 = .ok (.iconst 4, 1) := by decide +kernel
theorem dL_holds_218 : decode cL_holds 218 = .ok (.invokevirtual 31, 3) := by decide +kernel
theorem dL_holds_221 : decode cL_holds 221 = .ok (.if_icmp .ne 21, 3) := by decide +kernel
theorem dL_holds_224 : decode cL_holds 224 = .ok (.aload_n 0, 1) := by decide +kernel
theorem dL_holds_225 : decode cL_holds 225 = .ok (.bipush 6, 2) := by decide +kernel
theorem dL_holds_227 : decode cL_holds 227 = .ok (.invokevirtual 31, 3) := by decide +kernel
theorem dL_holds_230 : decode cL_holds 230 = .ok (.aload_n 0, 1) := by decide +kernel
theorem dL_holds_231 : decode cL_holds 231 = .ok (.iconst 5, 1) := by decide +kernel
theorem dL_holds_232 : decode cL_holds 232 = .ok (.invokevirtual 31, 3) := by decide +kernel
theorem dL_holds_235 : decode cL_holds 235 = .ok (.if_icmp .gt 7, 3) := by decide +kernel
theorem dL_holds_238 : decode cL_holds 238 = .ok (.iconst 1, 1) := by decide +kernel
theorem dL_holds_239 : decode cL_holds 239 = .ok (.goto 4, 3) := by decide +kernel
theorem dL_holds_242 : decode cL_holds 242 = .ok (.iconst 0, 1) := by decide +kernel
theorem dL_holds_243 : decode cL_holds 243 = .ok (.ireturn, 1) := by decide +kernel
