theorem dL_cell_0 : decode cL_cell 0 = .ok (.iload_n 1, 1) := by decide +kernel
theorem dL_cell_1 : decode cL_cell 1 = .ok (.aload_n 0, 1) := by decide +kernel
theorem dL_cell_2 : decode cL_cell 2 = .ok (.arraylength, 1) := by decide +kernel
theorem dL_cell_3 : decode cL_cell 3 = .ok (.if_icmp .ge 9, 3) := by decide +kernel
theorem dL_cell_6 : decode cL_cell 6 = .ok (.aload_n 0, 1) := by decide +kernel
theorem dL_cell_7 : decode cL_cell 7 = .ok (.iload_n 1, 1) := by decide +kernel
theorem dL_cell_8 : decode cL_cell 8 = .ok (.iaload, 1) := by decide +kernel
theorem dL_cell_9 : decode cL_cell 9 = .ok (.goto 12, 3) := by decide +kernel
theorem dL_cell_12 : decode cL_cell 12 = .ok (.ldc 7, 2) := by decide +kernel
theorem dL_cell_14 : decode cL_cell 14 = .ok (.iload_n 1, 1) := by decide +kernel
theorem dL_cell_15 : decode cL_cell 15 = .ok (.iconst 5, 1) := by decide +kernel
theorem dL_cell_16 : decode cL_cell 16 = .ok (.iadd, 1) := by decide +kernel
theorem dL_cell_17 : decode cL_cell 17 = .ok (.imul, 1) := by decide +kernel
theorem dL_cell_18 : decode cL_cell 18 = .ok (.ldc 8, 2) := by decide +kernel
theorem dL_cell_20 : decode cL_cell 20 = .ok (.iadd, 1) := by decide +kernel
theorem dL_cell_21 : decode cL_cell 21 = .ok (.ireturn, 1) := by decide +kernel
theorem dL_low_0 : decode cL_low 0 = .ok (.iload_n 0, 1) := by decide +kernel
theorem dL_low_1 : decode cL_low 1 = .ok (.ldc 9, 2) := by decide +kernel
theorem dL_low_3 : decode cL_low 3 = .ok (.iand, 1) := by decide +kernel
theorem dL_low_4 : decode cL_low 4 = .ok (.iload_n 1, 1) := by decide +kernel
theorem dL_low_5 : decode cL_low 5 = .ok (.irem, 1) := by decide +kernel
theorem dL_low_6 : decode cL_low 6 = .ok (.ireturn, 1) := by decide +kernel
set_option maxRecDepth 20000 in
theorem ggL_isCell_X8_cellOf : GoodIn wsL_isCell wsX8_cellOf := goodIn_ca (goodIn_ca (goodIn_r _ [5, 6, 7, 8, 9, 10, 11, 4, 12, 13, 14, 15, 16, 17, 18, 19, 20, 21, 22, 23, 24, 25, 26, 27, 28, 29, 30, 31, 32, 33, 34, 35, 36, 37, 38, 39, 40, 41, 42, 43, 44, 45, 46, 47, 48, 49, 50, 51, 52, 53, 54, 55, 56, 57, 58, 59, 60, 61, 62, 63, 64, 65, 66, 67, 68, 69, 70, 71, 72, 73, 74, 75, 76, 77, 78, 79, 80, 81, 82, 83, 84] (by decide +kernel) (by decide +kernel)) (goodIn_sub (fun _ h => List.mem_cons_of_mem _ (List.mem_append_left _ (List.mem_append_right _ h))) (by decide +kernel))) (goodIn_sub (fun _ h => List.mem_cons_of_mem _ (List.mem_append_right _ h)) (by decide +kernel))
set_option maxRecDepth 20000 in
theorem gL_isCell_X8_cellOf : GoodIn wsL_isCell (wsV RL 10 RX8 yX8_cellOf wsX8_cellOf) := goodIn_app (goodIn_of _ (by decide +kernel)) ggL_isCell_X8_cellOf
theorem dL_isCell_0 : decode cL_isCell 0 = .ok (.aload_n 0, 1) := by decide +kernel
theorem dL_isCell_1 : decode cL_isCell 1 = .ok (.iload_n 1, 1) := by decide +kernel
theorem dL_isCell_2 : decode cL_isCell 2 = .ok (.iload_n 2, 1) := by decide +kernel
theorem dL_isCell_3 : decode cL_isCell 3 = .ok (.iconst 0, 1) := by decide +kernel
theorem dL_isCell_4 : decode cL_isCell 4 = .ok (.invokevirtual 10, 3) := by decide +kernel
theorem dL_isCell_7 : decode cL_isCell 7 = .ok (.iconst 1, 1) := by decide +kernel
theorem dL_isCell_8 : decode cL_isCell 8 = .ok (.if_icmp .ne 7, 3) := by decide +kernel
theorem dL_isCell_11 : decode cL_isCell 11 = .ok (.iconst 1, 1) := by decide +kernel
theorem dL_isCell_12 : decode cL_isCell 12 = .ok (.goto 4, 3) := by decide +kernel
theorem dL_isCell_15 : decode cL_isCell 15 = .ok (.iconst 0, 1) := by decide +kernel
theorem dL_isCell_16 : decode cL_isCell 16 = .ok (.istore_n 3, 1) := by decide +kernel
theorem dL_isCell_17 : decode cL_isCell 17 = .ok (.aload_n 0, 1) := by decide +kernel
theorem dL_isCell_18 : decode cL_isCell 18 = .ok (.iload_n 1, 1) := by decide +kernel
theorem dL_isCell_19 : decode cL_isCell 19 = .ok (.iload_n 2, 1) := by decide +kernel
theorem dL_isCell_20 : decode cL_isCell 20 = .ok (.iconst 1, 1) := by decide +kernel
theorem dL_isCell_21 : decode cL_isCell 21 = .ok (.invokevirtual 10, 3) := by decide +kernel
theorem dL_isCell_24 : decode cL_isCell 24 = .ok (.iconst 1, 1) := by decide +kernel
theorem dL_isCell_25 : decode cL_isCell 25 = .ok (.if_icmp .ne 7, 3) := by decide +kernel
theorem dL_isCell_28 : decode cL_isCell 28 = .ok (.iconst 1, 1) := by decide +kernel
theorem dL_isCell_29 : decode cL_isCell 29 = .ok (.goto 4, 3) := by decide +kernel
theorem dL_isCell_32 : decode cL_isCell 32 = .ok (.iconst 0, 1) := by decide +kernel
theorem dL_isCell_33 : decode cL_isCell 33 = .ok (.istore 4, 2) := by decide +kernel
theorem dL_isCell_35 : decode cL_isCell 35 = .ok (.aload_n 0, 1) := by decide +kernel
theorem dL_isCell_36 : decode cL_isCell 36 = .ok (.iload_n 1, 1) := by decide +kernel
theorem dL_isCell_37 : decode cL_isCell 37 = .ok (.iload_n 2, 1) := by decide +kernel
theorem dL_isCell_38 : decode cL_isCell 38 = .ok (.iconst 2, 1) := by decide +kernel
theorem dL_isCell_39 : decode cL_isCell 39 = .ok (.invokevirtual 10, 3) := by decide +kernel
theorem dL_isCell_42 : decode cL_isCell 42 = .ok (.istore 5, 2) := by decide +kernel
theorem dL_isCell_44 : decode cL_isCell 44 = .ok (.iload 4, 2) := by decide +kernel
theorem dL_isCell_46 : decode cL_isCell 46 = .ok (.iload_n 3, 1) := by decide +kernel
theorem dL_isCell_47 : decode cL_isCell 47 = .ok (.ifCond .ne 24, 3) := by decide +kernel
theorem dL_isCell_50 : decode cL_isCell 50 = .ok (.iload_n 2, 1) := by decide +kernel
theorem dL_isCell_51 : decode cL_isCell 51 = .ok (.ifCond .eq 16, 3) := by decide +kernel
theorem dL_isCell_54 : decode cL_isCell 54 = .ok (.aload_n 0, 1) := by decide +kernel
theorem dL_isCell_55 : decode cL_isCell 55 = .ok (.iload_n 1, 1) := by decide +kernel
theorem dL_isCell_56 : decode cL_isCell 56 = .ok (.iload_n 2, 1) := by decide +kernel
theorem dL_isCell_57 : decode cL_isCell 57 = .ok (.iconst 1, 1) := by decide +kernel
theorem dL_isCell_58 : decode cL_isCell 58 = .ok (.isub, 1) := by decide +kernel
theorem dL_isCell_59 : decode cL_isCell 59 = .ok (.iconst 0, 1) := by decide +kernel
theorem dL_isCell_60 : decode cL_isCell 60 = .ok (.invokevirtual 10, 3) := by decide +kernel
theorem dL_isCell_63 : decode cL_isCell 63 = .ok (.iconst 1, 1) := by decide +kernel
theorem dL_isCell_64 : decode cL_isCell 64 = .ok (.if_icmp .ne 7, 3) := by decide +kernel
theorem dL_isCell_67 : decode cL_isCell 67 = .ok (.iconst 1, 1) := by decide +kernel
theorem dL_isCell_68 : decode cL_isCell 68 = .ok (.goto 4, 3) := by decide +kernel
theorem dL_isCell_71 : decode cL_isCell 71 = .ok (.iconst 0, 1) := by decide +kernel
theorem dL_isCell_72 : decode cL_isCell 72 = .ok (.if_icmp .ne 62, 3) := by decide +kernel
theorem dL_isCell_75 : decode cL_isCell 75 = .ok (.iload 5, 2) := by decide +kernel
theorem dL_isCell_77 : decode cL_isCell 77 = .ok (.ifCond .lt 7, 3) := by decide +kernel
theorem dL_isCell_80 : decode cL_isCell 80 = .ok (.iconst 1, 1) := by decide +kernel
theorem dL_isCell_81 : decode cL_isCell 81 = .ok (.goto 4, 3) := by decide +kernel
theorem dL_isCell_84 : decode cL_isCell 84 = .ok (.iconst 0, 1) := by decide +kernel
theorem dL_isCell_85 : decode cL_isCell 85 = .ok (.iload 4, 2) := by decide +kernel
theorem dL_isCell_87 : decode cL_isCell 87 = .ok (.if_icmp .ne 47, 3) := by decide +kernel
theorem dL_isCell_90 : decode cL_isCell 90 = .ok (.aload_n 0, 1) := by decide +kernel
theorem dL_isCell_91 : decode cL_isCell 91 = .ok (.iload_n 1, 1) := by decide +kernel
theorem dL_isCell_92 : decode cL_isCell 92 = .ok (.iload_n 2, 1) := by decide +kernel
theorem dL_isCell_93 : decode cL_isCell 93 = .ok (.iconst 3, 1) := by decide +kernel
theorem dL_isCell_94 : decode cL_isCell 94 = .ok (.invokevirtual 10, 3) := by decide +kernel
theorem dL_isCell_97 : decode cL_isCell 97 = .ok (.ifCond .lt 7, 3) := by decide +kernel
theorem dL_isCell_100 : decode cL_isCell 100 = .ok (.iconst 1, 1) := by decide +kernel
theorem dL_isCell_101 : decode cL_isCell 101 = .ok (.goto 4, 3) := by decide +kernel
theorem dL_isCell_104 : decode cL_isCell 104 = .ok (.iconst 0, 1) := by decide +kernel
theorem dL_isCell_105 : decode cL_isCell 105 = .ok (.iload 4, 2) := by decide +kernel
theorem dL_isCell_107 : decode cL_isCell 107 = .ok (.if_icmp .ne 27, 3) := by decide +kernel
theorem dL_isCell_110 : decode cL_isCell 110 = .ok (.aload_n 0, 1) := by decide +kernel
theorem dL_isCell_111 : decode cL_isCell 111 = .ok (.iload_n 1, 1) := by decide +kernel
theorem dL_isCell_112 : decode cL_isCell 112 = .ok (.iload_n 2, 1) := by decide +kernel
theorem dL_isCell_113 : decode cL_isCell 113 = .ok (.iconst 4, 1) := by decide +kernel
theorem dL_isCell_114 : decode cL_isCell 114 = .ok (.invokevirtual 10, 3) := by decide +kernel
theorem dL_isCell_117 : decode cL_isCell 117 = .ok (.ifCond .lt 7, 3) := by decide +kernel
theorem dL_isCell_120 : decode cL_isCell 120 = .ok (.iconst 1, 1) := by decide +kernel
theorem dL_isCell_121 : decode cL_isCell 121 = .ok (.goto 4, 3) := by decide +kernel
theorem dL_isCell_124 : decode cL_isCell 124 = .ok (.iconst 0, 1) := by decide +kernel
theorem dL_isCell_125 : decode cL_isCell 125 = .ok (.iload 4, 2) := by decide +kernel
theorem dL_isCell_127 : decode cL_isCell 127 = .ok (.if_icmp .ne 7, 3) := by decide +kernel
theorem dL_isCell_130 : decode cL_isCell 130 = .ok (.iconst 1, 1) := by decide +kernel
theorem dL_isCell_131 : decode cL_isCell 131 = .ok (.goto 4, 3) := by decide +kernel
theorem dL_isCell_134 : decode cL_isCell 134 = .ok (.iconst 0, 1) := by decide +kernel
theorem dL_isCell_135 : decode cL_isCell 135 = .ok (.istore 6, 2) := by decide +kernel
theorem dL_isCell_137 : decode cL_isCell 137 = .ok (.iload 6, 2) := by decide +kernel
theorem dL_isCell_139 : decode cL_isCell 139 = .ok (.ifCond .eq 88, 3) := by decide +kernel
theorem dL_isCell_142 : decode cL_isCell 142 = .ok (.iload 4, 2) := by decide +kernel
theorem dL_isCell_144 : decode cL_isCell 144 = .ok (.ifCond .eq 83, 3) := by decide +kernel
theorem dL_isCell_147 : decode cL_isCell 147 = .ok (.iload_n 1, 1) := by decide +kernel
theorem dL_isCell_148 : decode cL_isCell 148 = .ok (.ifCond .le 79, 3) := by decide +kernel
theorem dL_isCell_151 : decode cL_isCell 151 = .ok (.aload_n 0, 1) := by decide +kernel
theorem dL_isCell_152 : decode cL_isCell 152 = .ok (.iload_n 1, 1) := by decide +kernel
theorem dL_isCell_153 : decode cL_isCell 153 = .ok (.iconst 1, 1) := by decide +kernel
theorem dL_isCell_154 : decode cL_isCell 154 = .ok (.isub, 1) := by decide +kernel
theorem dL_isCell_155 : decode cL_isCell 155 = .ok (.iload_n 2, 1) := by decide +kernel
theorem dL_isCell_156 : decode cL_isCell 156 = .ok (.iconst 2, 1) := by decide +kernel
theorem dL_isCell_157 : decode cL_isCell 157 = .ok (.invokevirtual 10, 3) := by decide +kernel
theorem dL_isCell_160 : decode cL_isCell 160 = .ok (.istore 7, 2) := by decide +kernel
theorem dL_isCell_162 : decode cL_isCell 162 = .ok (.iload 7, 2) := by decide +kernel
theorem dL_isCell_164 : decode cL_isCell 164 = .ok (.ifCond .lt 7, 3) := by decide +kernel
theorem dL_isCell_167 : decode cL_isCell 167 = .ok (.iconst 1, 1) := by decide +kernel
theorem dL_isCell_168 : decode cL_isCell 168 = .ok (.goto 4, 3) := by decide +kernel
theorem dL_isCell_171 : decode cL_isCell 171 = .ok (.iconst 0, 1) := by decide +kernel
theorem dL_isCell_172 : decode cL_isCell 172 = .ok (.aload_n 0, 1) := by decide +kernel
theorem dL_isCell_173 : decode cL_isCell 173 = .ok (.iload_n 1, 1) := by decide +kernel
theorem dL_isCell_174 : decode cL_isCell 174 = .ok (.iconst 1, 1) := by decide +kernel
theorem dL_isCell_175 : decode cL_isCell 175 = .ok (.isub, 1) := by decide +kernel
theorem dL_isCell_176 : decode cL_isCell 176 = .ok (.iload_n 2, 1) := by decide +kernel
theorem dL_isCell_177 : decode cL_isCell 177 = .ok (.iconst 1, 1) := by decide +kernel
theorem dL_isCell_178 : decode cL_isCell 178 = .ok (.invokevirtual 10, 3) := by decide +kernel
theorem dL_isCell_181 : decode cL_isCell 181 = .ok (.iconst 1, 1) := by decide +kernel
theorem dL_isCell_182 : decode cL_isCell 182 = .ok (.if_icmp .ne 7, 3) := by decide +kernel
theorem dL_isCell_185 : decode cL_isCell 185 = .ok (.iconst 1, 1) := by decide +kernel
theorem dL_isCell_186 : decode cL_isCell 186 = .ok (.goto 4, 3) := by decide +kernel
theorem dL_isCell_189 : decode cL_isCell 189 = .ok (.iconst 0, 1) := by decide +kernel
theorem dL_isCell_190 : decode cL_isCell 190 = .ok (.if_icmp .ne 34, 3) := by decide +kernel
theorem dL_isCell_193 : decode cL_isCell 193 = .ok (.iload 7, 2) := by decide +kernel
theorem dL_isCell_195 : decode cL_isCell 195 = .ok (.ifCond .lt 10, 3) := by decide +kernel
theorem dL_isCell_198 : decode cL_isCell 198 = .ok (.iload 7, 2) := by decide +kernel
theorem dL_isCell_200 : decode cL_isCell 200 = .ok (.iload 5, 2) := by decide +kernel
theorem dL_isCell_202 : decode cL_isCell 202 = .ok (.if_icmp .ne 22, 3) := by decide +kernel
theorem dL_isCell_205 : decode cL_isCell 205 = .ok (.iload 7, 2) := by decide +kernel
theorem dL_isCell_207 : decode cL_isCell 207 = .ok (.ifCond .ge 13, 3) := by decide +kernel
theorem dL_isCell_210 : decode cL_isCell 210 = .ok (.aload_n 0, 1) := by decide +kernel
theorem dL_isCell_211 : decode cL_isCell 211 = .ok (.iload_n 1, 1) := by decide +kernel
theorem dL_isCell_212 : decode cL_isCell 212 = .ok (.iload_n 2, 1) := by decide +kernel
theorem dL_isCell_213 : decode cL_isCell 213 = .ok (.iconst 3, 1) := by decide +kernel
theorem dL_isCell_214 : decode cL_isCell 214 = .ok (.invokevirtual 10, 3) := by decide +kernel
theorem dL_isCell_217 : decode cL_isCell 217 = .ok (.ifCond .ne 7, 3) := by decide +kernel
theorem dL_isCell_220 : decode cL_isCell 220 = .ok (.iconst 1, 1) := by decide +kernel
theorem dL_isCell_221 : decode cL_isCell 221 = .ok (.goto 4, 3) := by decide +kernel
theorem dL_isCell_224 : decode cL_isCell 224 = .ok (.iconst 0, 1) := by decide +kernel
theorem dL_isCell_225 : decode cL_isCell 225 = .ok (.istore 6, 2) := by decide +kernel
theorem dL_isCell_227 : decode cL_isCell 227 = .ok (.iload 6, 2) := by decide +kernel
theorem dL_isCell_229 : decode cL_isCell 229 = .ok (.ireturn, 1) := by decide +kernel
set_option maxRecDepth 20000 in
theorem ggL_areArcs_X8_setting : GoodIn wsL_areArcs wsX8_setting := goodIn_ca (goodIn_r _ [5, 6, 7, 8, 9, 10, 11, 4, 12, 13, 14, 15, 39, 40, 41, 42, 43, 44, 45, 46, 47, 48, 49, 50, 51, 52, 53, 54, 55] (by decide +kernel) (by decide +kernel)) (goodIn_sub (fun _ h => List.mem_cons_of_mem _ (List.mem_append_left _ (List.mem_append_right _ h))) (by decide +kernel))
set_option maxRecDepth 20000 in
theorem gL_areArcs_X8_setting : GoodIn wsL_areArcs (wsV RL 48 RX8 yX8_setting wsX8_setting) := goodIn_app (goodIn_of _ (by decide +kernel)) ggL_areArcs_X8_setting
set_option maxRecDepth 20000 in
theorem ggL_areArcs_X8_arc : GoodIn wsL_areArcs wsX8_arc := goodIn_ca (goodIn_r _ [19, 20, 21, 22, 23, 24, 4, 25, 8, 9, 13, 14, 15, 26, 27, 28, 29, 30, 31, 32, 33, 34, 35, 36, 37, 38, 39, 40, 41, 42, 43, 44, 45, 46, 47, 48, 49, 50, 51, 52, 53, 54, 55] (by decide +kernel) (by decide +kernel)) (goodIn_sub (fun _ h => List.mem_cons_of_mem _ (List.mem_append_right _ h)) (by decide +kernel))
set_option maxRecDepth 20000 in
theorem gL_areArcs_X8_arc : GoodIn wsL_areArcs (wsV RL 51 RX8 yX8_arc wsX8_arc) := goodIn_app (goodIn_of _ (by decide +kernel)) ggL_areArcs_X8_arc
theorem dL_areArcs_0 : decode cL_areArcs 0 = .ok (.iconst 0, 1) := by decide +kernel
theorem dL_areArcs_1 : decode cL_areArcs 1 = .ok (.istore_n 1, 1) := by decide +kernel
theorem dL_areArcs_2 : decode cL_areArcs 2 = .ok (.aload_n 0, 1) := by decide +kernel
theorem dL_areArcs_3 : decode cL_areArcs 3 = .ok (.iconst 0, 1) := by decide +kernel
theorem dL_areArcs_4 : decode cL_areArcs 4 = .ok (.invokevirtual 48, 3) := by decide +kernel
theorem dL_areArcs_7 : decode cL_areArcs 7 = .ok (.istore_n 2, 1) := by decide +kernel
theorem dL_areArcs_8 : decode cL_areArcs 8 = .ok (.iconst 0, 1) := by decide +kernel
theorem dL_areArcs_9 : decode cL_areArcs 9 = .ok (.istore_n 3, 1) := by decide +kernel
theorem dL_areArcs_10 : decode cL_areArcs 10 = .ok (.iload_n 3, 1) := by decide +kernel
theorem dL_areArcs_11 : decode cL_areArcs 11 = .ok (.bipush 30, 2) := by decide +kernel
theorem dL_areArcs_13 : decode cL_areArcs 13 = .ok (.if_icmp .gt 61, 3) := by decide +kernel
theorem dL_areArcs_16 : decode cL_areArcs 16 = .ok (.aload_n 0, 1) := by decide +kernel
theorem dL_areArcs_17 : decode cL_areArcs 17 = .ok (.iload_n 3, 1) := by decide +kernel
theorem dL_areArcs_18 : decode cL_areArcs 18 = .ok (.iconst 0, 1) := by decide +kernel
theorem dL_areArcs_19 : decode cL_areArcs 19 = .ok (.invokevirtual 51, 3) := by decide +kernel
theorem dL_areArcs_22 : decode cL_areArcs 22 = .ok (.sipush 200, 3) := by decide +kernel
theorem dL_areArcs_25 : decode cL_areArcs 25 = .ok (.iload_n 1, 1) := by decide +kernel
theorem dL_areArcs_26 : decode cL_areArcs 26 = .ok (.iadd, 1) := by decide +kernel
theorem dL_areArcs_27 : decode cL_areArcs 27 = .ok (.if_icmp .ne 17, 3) := by decide +kernel
theorem dL_areArcs_30 : decode cL_areArcs 30 = .ok (.aload_n 0, 1) := by decide +kernel
theorem dL_areArcs_31 : decode cL_areArcs 31 = .ok (.iload_n 3, 1) := by decide +kernel
theorem dL_areArcs_32 : decode cL_areArcs 32 = .ok (.iconst 1, 1) := by decide +kernel
theorem dL_areArcs_33 : decode cL_areArcs 33 = .ok (.invokevirtual 51, 3) := by decide +kernel
theorem dL_areArcs_36 : decode cL_areArcs 36 = .ok (.sipush 200, 3) := by decide +kernel
theorem dL_areArcs_39 : decode cL_areArcs 39 = .ok (.iload_n 1, 1) := by decide +kernel
theorem dL_areArcs_40 : decode cL_areArcs 40 = .ok (.iadd, 1) := by decide +kernel
theorem dL_areArcs_41 : decode cL_areArcs 41 = .ok (.if_icmp .eq 5, 3) := by decide +kernel
theorem dL_areArcs_44 : decode cL_areArcs 44 = .ok (.iconst 0, 1) := by decide +kernel
theorem dL_areArcs_45 : decode cL_areArcs 45 = .ok (.ireturn, 1) := by decide +kernel
theorem dL_areArcs_46 : decode cL_areArcs 46 = .ok (.iload_n 1, 1) := by decide +kernel
theorem dL_areArcs_47 : decode cL_areArcs 47 = .ok (.iload_n 2, 1) := by decide +kernel
theorem dL_areArcs_48 : decode cL_areArcs 48 = .ok (.iadd, 1) := by decide +kernel
theorem dL_areArcs_49 : decode cL_areArcs 49 = .ok (.istore_n 1, 1) := by decide +kernel
theorem dL_areArcs_50 : decode cL_areArcs 50 = .ok (.iload_n 2, 1) := by decide +kernel
theorem dL_areArcs_51 : decode cL_areArcs 51 = .ok (.aload_n 0, 1) := by decide +kernel
theorem dL_areArcs_52 : decode cL_areArcs 52 = .ok (.iconst 1, 1) := by decide +kernel
theorem dL_areArcs_53 : decode cL_areArcs 53 = .ok (.invokevirtual 48, 3) := by decide +kernel
theorem dL_areArcs_56 : decode cL_areArcs 56 = .ok (.ineg, 1) := by decide +kernel
theorem dL_areArcs_57 : decode cL_areArcs 57 = .ok (.if_icmp .le 9, 3) := by decide +kernel
theorem dL_areArcs_60 : decode cL_areArcs 60 = .ok (.iload_n 2, 1) := by decide +kernel
theorem dL_areArcs_61 : decode cL_areArcs 61 = .ok (.iconst 1, 1) := by decide +kernel
theorem dL_areArcs_62 : decode cL_areArcs 62 = .ok (.isub, 1) := by decide +kernel
theorem dL_areArcs_63 : decode cL_areArcs 63 = .ok (.goto 4, 3) := by decide +kernel
theorem dL_areArcs_66 : decode cL_areArcs 66 = .ok (.iload_n 2, 1) := by decide +kernel
theorem dL_areArcs_67 : decode cL_areArcs 67 = .ok (.istore_n 2, 1) := by decide +kernel
theorem dL_areArcs_68 : decode cL_areArcs 68 = .ok (.iinc 3 1, 3) := by decide +kernel
theorem dL_areArcs_71 : decode cL_areArcs 71 = .ok (.goto (-61), 3) := by decide +kernel
theorem dL_areArcs_74 : decode cL_areArcs 74 = .ok (.iconst 1, 1) := by decide +kernel
theorem dL_areArcs_75 : decode cL_areArcs 75 = .ok (.ireturn, 1) := by decide +kernel
