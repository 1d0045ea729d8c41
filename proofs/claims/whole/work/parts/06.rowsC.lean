theorem dX9_init_0 : decode cX9_init 0 = .ok (.aload_n 0, 1) := by decide +kernel
theorem dX9_init_1 : decode cX9_init 1 = .ok (.invokespecial 1, 3) := by decide +kernel
theorem dX9_init_4 : decode cX9_init 4 = .ok (.aload_n 0, 1) := by decide +kernel
theorem dX9_init_5 : decode cX9_init 5 = .ok (.bipush 28, 2) := by decide +kernel
theorem dX9_init_7 : decode cX9_init 7 = .ok (.newarray .int, 2) := by decide +kernel
theorem dX9_init_9 : decode cX9_init 9 = .ok (.putfield 7, 3) := by decide +kernel
theorem dX9_init_12 : decode cX9_init 12 = .ok (.aload_n 0, 1) := by decide +kernel
theorem dX9_init_13 : decode cX9_init 13 = .ok (.sipush 168, 3) := by decide +kernel
theorem dX9_init_16 : decode cX9_init 16 = .ok (.newarray .int, 2) := by decide +kernel
theorem dX9_init_18 : decode cX9_init 18 = .ok (.putfield 13, 3) := by decide +kernel
theorem dX9_init_21 : decode cX9_init 21 = .ok (.aload_n 0, 1) := by decide +kernel
theorem dX9_init_22 : decode cX9_init 22 = .ok (.bipush 56, 2) := by decide +kernel
theorem dX9_init_24 : decode cX9_init 24 = .ok (.newarray .int, 2) := by decide +kernel
theorem dX9_init_26 : decode cX9_init 26 = .ok (.putfield 16, 3) := by decide +kernel
theorem dX9_init_29 : decode cX9_init 29 = .ok (.aload_n 0, 1) := by decide +kernel
theorem dX9_init_30 : decode cX9_init 30 = .ok (.iconst 2, 1) := by decide +kernel
theorem dX9_init_31 : decode cX9_init 31 = .ok (.newarray .boolean, 2) := by decide +kernel
theorem dX9_init_33 : decode cX9_init 33 = .ok (.putfield 19, 3) := by decide +kernel
theorem dX9_init_36 : decode cX9_init 36 = .ok (.aload_n 0, 1) := by decide +kernel
theorem dX9_init_37 : decode cX9_init 37 = .ok (.bipush 60, 2) := by decide +kernel
theorem dX9_init_39 : decode cX9_init 39 = .ok (.newarray .int, 2) := by decide +kernel
theorem dX9_init_41 : decode cX9_init 41 = .ok (.putfield 23, 3) := by decide +kernel
theorem dX9_init_44 : decode cX9_init 44 = .ok (.aload_n 0, 1) := by decide +kernel
theorem dX9_init_45 : decode cX9_init 45 = .ok (.sipush 200, 3) := by decide +kernel
theorem dX9_init_48 : decode cX9_init 48 = .ok (.newarray .int, 2) := by decide +kernel
theorem dX9_init_50 : decode cX9_init 50 = .ok (.putfield 26, 3) := by decide +kernel
theorem dX9_init_53 : decode cX9_init 53 = .ok (.aload_n 0, 1) := by decide +kernel
theorem dX9_init_54 : decode cX9_init 54 = .ok (.bipush 100, 2) := by decide +kernel
theorem dX9_init_56 : decode cX9_init 56 = .ok (.newarray .int, 2) := by decide +kernel
theorem dX9_init_58 : decode cX9_init 58 = .ok (.putfield 29, 3) := by decide +kernel
theorem dX9_init_61 : decode cX9_init 61 = .ok (.aload_n 0, 1) := by decide +kernel
theorem dX9_init_62 : decode cX9_init 62 = .ok (.bipush 100, 2) := by decide +kernel
theorem dX9_init_64 : decode cX9_init 64 = .ok (.newarray .int, 2) := by decide +kernel
theorem dX9_init_66 : decode cX9_init 66 = .ok (.putfield 32, 3) := by decide +kernel
theorem dX9_init_69 : decode cX9_init 69 = .ok (.aload_n 0, 1) := by decide +kernel
theorem dX9_init_70 : decode cX9_init 70 = .ok (.sipush 10000, 3) := by decide +kernel
theorem dX9_init_73 : decode cX9_init 73 = .ok (.newarray .int, 2) := by decide +kernel
theorem dX9_init_75 : decode cX9_init 75 = .ok (.putfield 35, 3) := by decide +kernel
theorem dX9_init_78 : decode cX9_init 78 = .ok (.aload_n 0, 1) := by decide +kernel
theorem dX9_init_79 : decode cX9_init 79 = .ok (.bipush 100, 2) := by decide +kernel
theorem dX9_init_81 : decode cX9_init 81 = .ok (.newarray .int, 2) := by decide +kernel
theorem dX9_init_83 : decode cX9_init 83 = .ok (.putfield 38, 3) := by decide +kernel
theorem dX9_init_86 : decode cX9_init 86 = .ok (.aload_n 0, 1) := by decide +kernel
theorem dX9_init_87 : decode cX9_init 87 = .ok (.bipush 100, 2) := by decide +kernel
theorem dX9_init_89 : decode cX9_init 89 = .ok (.newarray .boolean, 2) := by decide +kernel
theorem dX9_init_91 : decode cX9_init 91 = .ok (.putfield 41, 3) := by decide +kernel
theorem dX9_init_94 : decode cX9_init 94 = .ok (.aload_n 0, 1) := by decide +kernel
theorem dX9_init_95 : decode cX9_init 95 = .ok (.getfield 7, 3) := by decide +kernel
theorem dX9_init_98 : decode cX9_init 98 = .ok (.bipush 20, 2) := by decide +kernel
theorem dX9_init_100 : decode cX9_init 100 = .ok (.iconst 2, 1) := by decide +kernel
theorem dX9_init_101 : decode cX9_init 101 = .ok (.iastore, 1) := by decide +kernel
theorem dX9_init_102 : decode cX9_init 102 = .ok (.aload_n 0, 1) := by decide +kernel
theorem dX9_init_103 : decode cX9_init 103 = .ok (.getfield 7, 3) := by decide +kernel
theorem dX9_init_106 : decode cX9_init 106 = .ok (.bipush 21, 2) := by decide +kernel
theorem dX9_init_108 : decode cX9_init 108 = .ok (.iconst 3, 1) := by decide +kernel
theorem dX9_init_109 : decode cX9_init 109 = .ok (.iastore, 1) := by decide +kernel
theorem dX9_init_110 : decode cX9_init 110 = .ok (.aload_n 0, 1) := by decide +kernel
theorem dX9_init_111 : decode cX9_init 111 = .ok (.getfield 7, 3) := by decide +kernel
theorem dX9_init_114 : decode cX9_init 114 = .ok (.bipush 22, 2) := by decide +kernel
theorem dX9_init_116 : decode cX9_init 116 = .ok (.iconst 1, 1) := by decide +kernel
theorem dX9_init_117 : decode cX9_init 117 = .ok (.iastore, 1) := by decide +kernel
theorem dX9_init_118 : decode cX9_init 118 = .ok (.return_, 1) := by decide +kernel
theorem dX9_thrown_0 : decode cX9_thrown 0 = .ok (.aload_n 0, 1) := by decide +kernel
theorem dX9_thrown_1 : decode cX9_thrown 1 = .ok (.getfield 44, 3) := by decide +kernel
theorem dX9_thrown_4 : decode cX9_thrown 4 = .ok (.ireturn, 1) := by decide +kernel
theorem dX9_holds_0 : decode cX9_holds 0 = .ok (.aload_n 0, 1) := by decide +kernel
theorem dX9_holds_1 : decode cX9_holds 1 = .ok (.iload_n 1, 1) := by decide +kernel
theorem dX9_holds_2 : decode cX9_holds 2 = .ok (.putfield 44, 3) := by decide +kernel
theorem dX9_holds_5 : decode cX9_holds 5 = .ok (.iload_n 1, 1) := by decide +kernel
theorem dX9_holds_6 : decode cX9_holds 6 = .ok (.ifCond .ne 7, 3) := by decide +kernel
theorem dX9_holds_9 : decode cX9_holds 9 = .ok (.iconst 1, 1) := by decide +kernel
theorem dX9_holds_10 : decode cX9_holds 10 = .ok (.goto 4, 3) := by decide +kernel
theorem dX9_holds_13 : decode cX9_holds 13 = .ok (.iconst 0, 1) := by decide +kernel
theorem dX9_holds_14 : decode cX9_holds 14 = .ok (.ireturn, 1) := by decide +kernel
theorem dX9_in_0 : decode cX9_in 0 = .ok (.iload_n 0, 1) := by decide +kernel
theorem dX9_in_1 : decode cX9_in 1 = .ok (.iload_n 1, 1) := by decide +kernel
theorem dX9_in_2 : decode cX9_in 2 = .ok (.if_icmp .lt 12, 3) := by decide +kernel
theorem dX9_in_5 : decode cX9_in 5 = .ok (.iload_n 0, 1) := by decide +kernel
theorem dX9_in_6 : decode cX9_in 6 = .ok (.iload_n 2, 1) := by decide +kernel
theorem dX9_in_7 : decode cX9_in 7 = .ok (.if_icmp .gt 7, 3) := by decide +kernel
theorem dX9_in_10 : decode cX9_in 10 = .ok (.iconst 1, 1) := by decide +kernel
theorem dX9_in_11 : decode cX9_in 11 = .ok (.goto 4, 3) := by decide +kernel
theorem dX9_in_14 : decode cX9_in 14 = .ok (.iconst 0, 1) := by decide +kernel
theorem dX9_in_15 : decode cX9_in 15 = .ok (.ireturn, 1) := by decide +kernel
set_option maxRecDepth 20000 in
theorem ggX9_isCell_X9_in : GoodIn wsX9_isCell wsX9_in := goodIn_r _ [4] (by decide +kernel) (by decide +kernel)
set_option maxRecDepth 20000 in
theorem gX9_isCell_X9_in : GoodIn wsX9_isCell (va_wsS RX9 48 yX9_in wsX9_in) := goodIn_app (goodIn_of _ (by decide +kernel)) ggX9_isCell_X9_in
theorem dX9_isCell_0 : decode cX9_isCell 0 = .ok (.iload_n 0, 1) := by decide +kernel
theorem dX9_isCell_1 : decode cX9_isCell 1 = .ok (.iconst 0, 1) := by decide +kernel
theorem dX9_isCell_2 : decode cX9_isCell 2 = .ok (.bipush 19, 2) := by decide +kernel
theorem dX9_isCell_4 : decode cX9_isCell 4 = .ok (.invokestatic 48, 3) := by decide +kernel
theorem dX9_isCell_7 : decode cX9_isCell 7 = .ok (.ifCond .eq 17, 3) := by decide +kernel
theorem dX9_isCell_10 : decode cX9_isCell 10 = .ok (.iload_n 1, 1) := by decide +kernel
theorem dX9_isCell_11 : decode cX9_isCell 11 = .ok (.iconst 0, 1) := by decide +kernel
theorem dX9_isCell_12 : decode cX9_isCell 12 = .ok (.bipush 9, 2) := by decide +kernel
theorem dX9_isCell_14 : decode cX9_isCell 14 = .ok (.invokestatic 48, 3) := by decide +kernel
theorem dX9_isCell_17 : decode cX9_isCell 17 = .ok (.ifCond .eq 7, 3) := by decide +kernel
theorem dX9_isCell_20 : decode cX9_isCell 20 = .ok (.iconst 1, 1) := by decide +kernel
theorem dX9_isCell_21 : decode cX9_isCell 21 = .ok (.goto 4, 3) := by decide +kernel
theorem dX9_isCell_24 : decode cX9_isCell 24 = .ok (.iconst 0, 1) := by decide +kernel
theorem dX9_isCell_25 : decode cX9_isCell 25 = .ok (.ireturn, 1) := by decide +kernel
theorem dX9_isSide_0 : decode cX9_isSide 0 = .ok (.iload_n 0, 1) := by decide +kernel
theorem dX9_isSide_1 : decode cX9_isSide 1 = .ok (.iconst 1, 1) := by decide +kernel
theorem dX9_isSide_2 : decode cX9_isSide 2 = .ok (.if_icmp .eq 8, 3) := by decide +kernel
theorem dX9_isSide_5 : decode cX9_isSide 5 = .ok (.iload_n 0, 1) := by decide +kernel
theorem dX9_isSide_6 : decode cX9_isSide 6 = .ok (.iconst (-1), 1) := by decide +kernel
theorem dX9_isSide_7 : decode cX9_isSide 7 = .ok (.if_icmp .ne 7, 3) := by decide +kernel
theorem dX9_isSide_10 : decode cX9_isSide 10 = .ok (.iconst 1, 1) := by decide +kernel
theorem dX9_isSide_11 : decode cX9_isSide 11 = .ok (.goto 4, 3) := by decide +kernel
theorem dX9_isSide_14 : decode cX9_isSide 14 = .ok (.iconst 0, 1) := by decide +kernel
theorem dX9_isSide_15 : decode cX9_isSide 15 = .ok (.ireturn, 1) := by decide +kernel
set_option maxRecDepth 20000 in
theorem ggX9_isSlot_X9_in : GoodIn wsX9_isSlot wsX9_in := goodIn_r _ [4] (by decide +kernel) (by decide +kernel)
set_option maxRecDepth 20000 in
theorem gX9_isSlot_X9_in : GoodIn wsX9_isSlot (va_wsS RX9 48 yX9_in wsX9_in) := goodIn_app (goodIn_of _ (by decide +kernel)) ggX9_isSlot_X9_in
theorem dX9_isSlot_0 : decode cX9_isSlot 0 = .ok (.iload_n 0, 1) := by decide +kernel
theorem dX9_isSlot_1 : decode cX9_isSlot 1 = .ok (.iconst 0, 1) := by decide +kernel
theorem dX9_isSlot_2 : decode cX9_isSlot 2 = .ok (.iconst 1, 1) := by decide +kernel
theorem dX9_isSlot_3 : decode cX9_isSlot 3 = .ok (.invokestatic 48, 3) := by decide +kernel
theorem dX9_isSlot_6 : decode cX9_isSlot 6 = .ok (.ireturn, 1) := by decide +kernel
set_option maxRecDepth 20000 in
theorem ggX9_isBlock_X9_isCell : GoodIn wsX9_isBlock wsX9_isCell := goodIn_r _ [5, 6, 7, 4, 8] (by decide +kernel) (by decide +kernel)
set_option maxRecDepth 20000 in
theorem gX9_isBlock_X9_isCell : GoodIn wsX9_isBlock (va_wsS RX9 52 yX9_isCell wsX9_isCell) := goodIn_app (goodIn_of _ (by decide +kernel)) ggX9_isBlock_X9_isCell
theorem dX9_isBlock_0 : decode cX9_isBlock 0 = .ok (.iload_n 1, 1) := by decide +kernel
theorem dX9_isBlock_1 : decode cX9_isBlock 1 = .ok (.iload_n 2, 1) := by decide +kernel
theorem dX9_isBlock_2 : decode cX9_isBlock 2 = .ok (.invokestatic 52, 3) := by decide +kernel
theorem dX9_isBlock_5 : decode cX9_isBlock 5 = .ok (.ifCond .eq 19, 3) := by decide +kernel
theorem dX9_isBlock_8 : decode cX9_isBlock 8 = .ok (.aload_n 0, 1) := by decide +kernel
theorem dX9_isBlock_9 : decode cX9_isBlock 9 = .ok (.getfield 7, 3) := by decide +kernel
theorem dX9_isBlock_12 : decode cX9_isBlock 12 = .ok (.iconst 0, 1) := by decide +kernel
theorem dX9_isBlock_13 : decode cX9_isBlock 13 = .ok (.iload_n 1, 1) := by decide +kernel
theorem dX9_isBlock_14 : decode cX9_isBlock 14 = .ok (.iadd, 1) := by decide +kernel
theorem dX9_isBlock_15 : decode cX9_isBlock 15 = .ok (.iaload, 1) := by decide +kernel
theorem dX9_isBlock_16 : decode cX9_isBlock 16 = .ok (.iload_n 2, 1) := by decide +kernel
theorem dX9_isBlock_17 : decode cX9_isBlock 17 = .ok (.ishr, 1) := by decide +kernel
theorem dX9_isBlock_18 : decode cX9_isBlock 18 = .ok (.iconst 1, 1) := by decide +kernel
theorem dX9_isBlock_19 : decode cX9_isBlock 19 = .ok (.iand, 1) := by decide +kernel
theorem dX9_isBlock_20 : decode cX9_isBlock 20 = .ok (.iconst 1, 1) := by decide +kernel
theorem dX9_isBlock_21 : decode cX9_isBlock 21 = .ok (.if_icmp .ne 7, 3) := by decide +kernel
theorem dX9_isBlock_24 : decode cX9_isBlock 24 = .ok (.iconst 1, 1) := by decide +kernel
theorem dX9_isBlock_25 : decode cX9_isBlock 25 = .ok (.goto 4, 3) := by decide +kernel
theorem dX9_isBlock_28 : decode cX9_isBlock 28 = .ok (.iconst 0, 1) := by decide +kernel
theorem dX9_isBlock_29 : decode cX9_isBlock 29 = .ok (.ireturn, 1) := by decide +kernel
set_option maxRecDepth 20000 in
theorem ggX9_canStand_X9_isBlock : GoodIn wsX9_canStand wsX9_isBlock := goodIn_r _ [5, 6, 7, 8, 4, 9, 10, 11, 12, 13, 14, 15, 16, 17, 18, 19, 20, 21, 22, 23, 24, 25, 26, 27, 28, 29, 30, 31, 32, 33, 34, 35, 36, 37, 38] (by decide +kernel) (by decide +kernel)
set_option maxRecDepth 20000 in
theorem gX9_canStand_X9_isBlock : GoodIn wsX9_canStand (wsV RX9 56 RX9 yX9_isBlock wsX9_isBlock) := goodIn_app (goodIn_of _ (by decide +kernel)) ggX9_canStand_X9_isBlock
theorem dX9_canStand_0 : decode cX9_canStand 0 = .ok (.aload_n 0, 1) := by decide +kernel
theorem dX9_canStand_1 : decode cX9_canStand 1 = .ok (.iload_n 1, 1) := by decide +kernel
theorem dX9_canStand_2 : decode cX9_canStand 2 = .ok (.iload_n 2, 1) := by decide +kernel
theorem dX9_canStand_3 : decode cX9_canStand 3 = .ok (.invokevirtual 56, 3) := by decide +kernel
theorem dX9_canStand_6 : decode cX9_canStand 6 = .ok (.ifCond .ne 18, 3) := by decide +kernel
theorem dX9_canStand_9 : decode cX9_canStand 9 = .ok (.aload_n 0, 1) := by decide +kernel
theorem dX9_canStand_10 : decode cX9_canStand 10 = .ok (.iload_n 1, 1) := by decide +kernel
theorem dX9_canStand_11 : decode cX9_canStand 11 = .ok (.iload_n 2, 1) := by decide +kernel
theorem dX9_canStand_12 : decode cX9_canStand 12 = .ok (.iconst 1, 1) := by decide +kernel
theorem dX9_canStand_13 : decode cX9_canStand 13 = .ok (.isub, 1) := by decide +kernel
theorem dX9_canStand_14 : decode cX9_canStand 14 = .ok (.invokevirtual 56, 3) := by decide +kernel
theorem dX9_canStand_17 : decode cX9_canStand 17 = .ok (.ifCond .eq 7, 3) := by decide +kernel
theorem dX9_canStand_20 : decode cX9_canStand 20 = .ok (.iconst 1, 1) := by decide +kernel
theorem dX9_canStand_21 : decode cX9_canStand 21 = .ok (.goto 4, 3) := by decide +kernel
theorem dX9_canStand_24 : decode cX9_canStand 24 = .ok (.iconst 0, 1) := by decide +kernel
theorem dX9_canStand_25 : decode cX9_canStand 25 = .ok (.ireturn, 1) := by decide +kernel
theorem dX9_copy_0 : decode cX9_copy 0 = .ok (.iconst 0, 1) := by decide +kernel
theorem dX9_copy_1 : decode cX9_copy 1 = .ok (.istore 4, 2) := by decide +kernel
theorem dX9_copy_3 : decode cX9_copy 3 = .ok (.iload 4, 2) := by decide +kernel
theorem dX9_copy_5 : decode cX9_copy 5 = .ok (.bipush 28, 2) := by decide +kernel
theorem dX9_copy_7 : decode cX9_copy 7 = .ok (.if_icmp .ge 21, 3) := by decide +kernel
theorem dX9_copy_10 : decode cX9_copy 10 = .ok (.aload_n 2, 1) := by decide +kernel
theorem dX9_copy_11 : decode cX9_copy 11 = .ok (.iload_n 3, 1) := by decide +kernel
theorem dX9_copy_12 : decode cX9_copy 12 = .ok (.iload 4, 2) := by decide +kernel
theorem dX9_copy_14 : decode cX9_copy 14 = .ok (.iadd, 1) := by decide +kernel
theorem dX9_copy_15 : decode cX9_copy 15 = .ok (.aload_n 0, 1) := by decide +kernel
theorem dX9_copy_16 : decode cX9_copy 16 = .ok (.iload_n 1, 1) := by decide +kernel
theorem dX9_copy_17 : decode cX9_copy 17 = .ok (.iload 4, 2) := by decide +kernel
theorem dX9_copy_19 : decode cX9_copy 19 = .ok (.iadd, 1) := by decide +kernel
theorem dX9_copy_20 : decode cX9_copy 20 = .ok (.iaload, 1) := by decide +kernel
theorem dX9_copy_21 : decode cX9_copy 21 = .ok (.iastore, 1) := by decide +kernel
theorem dX9_copy_22 : decode cX9_copy 22 = .ok (.iinc 4 1, 3) := by decide +kernel
theorem dX9_copy_25 : decode cX9_copy 25 = .ok (.goto (-22), 3) := by decide +kernel
theorem dX9_copy_28 : decode cX9_copy 28 = .ok (.return_, 1) := by decide +kernel
set_option maxRecDepth 20000 in
theorem ggX9_save_X9_copy : GoodIn wsX9_save wsX9_copy := goodIn_r _ [7] (by decide +kernel) (by decide +kernel)
set_option maxRecDepth 20000 in
theorem gX9_save_X9_copy : GoodIn wsX9_save (va_wsS RX9 62 yX9_copy wsX9_copy) := goodIn_app (goodIn_of _ (by decide +kernel)) ggX9_save_X9_copy
theorem dX9_save_0 : decode cX9_save 0 = .ok (.aload_n 0, 1) := by decide +kernel
theorem dX9_save_1 : decode cX9_save 1 = .ok (.getfield 59, 3) := by decide +kernel
theorem dX9_save_4 : decode cX9_save 4 = .ok (.bipush 6, 2) := by decide +kernel
theorem dX9_save_6 : decode cX9_save 6 = .ok (.if_icmp .ne 43, 3) := by decide +kernel
theorem dX9_save_9 : decode cX9_save 9 = .ok (.iconst 0, 1) := by decide +kernel
theorem dX9_save_10 : decode cX9_save 10 = .ok (.istore_n 1, 1) := by decide +kernel
theorem dX9_save_11 : decode cX9_save 11 = .ok (.iload_n 1, 1) := by decide +kernel
theorem dX9_save_12 : decode cX9_save 12 = .ok (.sipush 140, 3) := by decide +kernel
theorem dX9_save_15 : decode cX9_save 15 = .ok (.if_icmp .ge 24, 3) := by decide +kernel
theorem dX9_save_18 : decode cX9_save 18 = .ok (.aload_n 0, 1) := by decide +kernel
theorem dX9_save_19 : decode cX9_save 19 = .ok (.getfield 13, 3) := by decide +kernel
theorem dX9_save_22 : decode cX9_save 22 = .ok (.iload_n 1, 1) := by decide +kernel
theorem dX9_save_23 : decode cX9_save 23 = .ok (.aload_n 0, 1) := by decide +kernel
theorem dX9_save_24 : decode cX9_save 24 = .ok (.getfield 13, 3) := by decide +kernel
theorem dX9_save_27 : decode cX9_save 27 = .ok (.bipush 28, 2) := by decide +kernel
theorem dX9_save_29 : decode cX9_save 29 = .ok (.iload_n 1, 1) := by decide +kernel
theorem dX9_save_30 : decode cX9_save 30 = .ok (.iadd, 1) := by decide +kernel
theorem dX9_save_31 : decode cX9_save 31 = .ok (.iaload, 1) := by decide +kernel
theorem dX9_save_32 : decode cX9_save 32 = .ok (.iastore, 1) := by decide +kernel
theorem dX9_save_33 : decode cX9_save 33 = .ok (.iinc 1 1, 3) := by decide +kernel
theorem dX9_save_36 : decode cX9_save 36 = .ok (.goto (-25), 3) := by decide +kernel
theorem dX9_save_39 : decode cX9_save 39 = .ok (.aload_n 0, 1) := by decide +kernel
theorem dX9_save_40 : decode cX9_save 40 = .ok (.dup, 1) := by decide +kernel
theorem dX9_save_41 : decode cX9_save 41 = .ok (.getfield 59, 3) := by decide +kernel
theorem dX9_save_44 : decode cX9_save 44 = .ok (.iconst 1, 1) := by decide +kernel
theorem dX9_save_45 : decode cX9_save 45 = .ok (.isub, 1) := by decide +kernel
theorem dX9_save_46 : decode cX9_save 46 = .ok (.putfield 59, 3) := by decide +kernel
theorem dX9_save_49 : decode cX9_save 49 = .ok (.aload_n 0, 1) := by decide +kernel
theorem dX9_save_50 : decode cX9_save 50 = .ok (.getfield 7, 3) := by decide +kernel
theorem dX9_save_53 : decode cX9_save 53 = .ok (.iconst 0, 1) := by decide +kernel
theorem dX9_save_54 : decode cX9_save 54 = .ok (.aload_n 0, 1) := by decide +kernel
theorem dX9_save_55 : decode cX9_save 55 = .ok (.getfield 13, 3) := by decide +kernel
theorem dX9_save_58 : decode cX9_save 58 = .ok (.bipush 28, 2) := by decide +kernel
theorem dX9_save_60 : decode cX9_save 60 = .ok (.aload_n 0, 1) := by decide +kernel
theorem dX9_save_61 : decode cX9_save 61 = .ok (.getfield 59, 3) := by decide +kernel
theorem dX9_save_64 : decode cX9_save 64 = .ok (.imul, 1) := by decide +kernel
theorem dX9_save_65 : decode cX9_save 65 = .ok (.invokestatic 62, 3) := by decide +kernel
theorem dX9_save_68 : decode cX9_save 68 = .ok (.aload_n 0, 1) := by decide +kernel
theorem dX9_save_69 : decode cX9_save 69 = .ok (.dup, 1) := by decide +kernel
theorem dX9_save_70 : decode cX9_save 70 = .ok (.getfield 59, 3) := by decide +kernel
theorem dX9_save_73 : decode cX9_save 73 = .ok (.iconst 1, 1) := by decide +kernel
theorem dX9_save_74 : decode cX9_save 74 = .ok (.iadd, 1) := by decide +kernel
theorem dX9_save_75 : decode cX9_save 75 = .ok (.putfield 59, 3) := by decide +kernel
theorem dX9_save_78 : decode cX9_save 78 = .ok (.return_, 1) := by decide +kernel
set_option maxRecDepth 20000 in
theorem ggX9_findLedges_X9_canStand : GoodIn wsX9_findLedges wsX9_canStand := goodIn_r _ [9, 10, 11, 12, 8, 13, 14, 15, 16, 17, 18, 19, 20, 21, 22, 23, 24, 25, 26, 27, 28, 29, 30, 31, 32, 33, 34, 35, 36, 37, 38, 39, 40, 41, 42, 43, 44, 45, 46] (by decide +kernel) (by decide +kernel)
set_option maxRecDepth 20000 in
theorem gX9_findLedges_X9_canStand : GoodIn wsX9_findLedges (wsV RX9 69 RX9 yX9_canStand wsX9_canStand) := goodIn_app (goodIn_of _ (by decide +kernel)) ggX9_findLedges_X9_canStand
theorem dX9_findLedges_0 : decode cX9_findLedges 0 = .ok (.aload_n 0, 1) := by decide +kernel
theorem dX9_findLedges_1 : decode cX9_findLedges 1 = .ok (.iconst 0, 1) := by decide +kernel
theorem dX9_findLedges_2 : decode cX9_findLedges 2 = .ok (.putfield 66, 3) := by decide +kernel
theorem dX9_findLedges_5 : decode cX9_findLedges 5 = .ok (.iconst 0, 1) := by decide +kernel
theorem dX9_findLedges_6 : decode cX9_findLedges 6 = .ok (.istore_n 1, 1) := by decide +kernel
theorem dX9_findLedges_7 : decode cX9_findLedges 7 = .ok (.iload_n 1, 1) := by decide +kernel
theorem dX9_findLedges_8 : decode cX9_findLedges 8 = .ok (.sipush 200, 3) := by decide +kernel
theorem dX9_findLedges_11 : decode cX9_findLedges 11 = .ok (.if_icmp .ge 108, 3) := by decide +kernel
theorem dX9_findLedges_14 : decode cX9_findLedges 14 = .ok (.iload_n 1, 1) := by decide +kernel
theorem dX9_findLedges_15 : decode cX9_findLedges 15 = .ok (.bipush 20, 2) := by decide +kernel
theorem dX9_findLedges_17 : decode cX9_findLedges 17 = .ok (.irem, 1) := by decide +kernel
theorem dX9_findLedges_18 : decode cX9_findLedges 18 = .ok (.istore_n 2, 1) := by decide +kernel
theorem dX9_findLedges_19 : decode cX9_findLedges 19 = .ok (.iload_n 1, 1) := by decide +kernel
theorem dX9_findLedges_20 : decode cX9_findLedges 20 = .ok (.bipush 20, 2) := by decide +kernel
theorem dX9_findLedges_22 : decode cX9_findLedges 22 = .ok (.idiv, 1) := by decide +kernel
theorem dX9_findLedges_23 : decode cX9_findLedges 23 = .ok (.istore_n 3, 1) := by decide +kernel
theorem dX9_findLedges_24 : decode cX9_findLedges 24 = .ok (.aload_n 0, 1) := by decide +kernel
theorem dX9_findLedges_25 : decode cX9_findLedges 25 = .ok (.getfield 26, 3) := by decide +kernel
theorem dX9_findLedges_28 : decode cX9_findLedges 28 = .ok (.iload_n 1, 1) := by decide +kernel
theorem dX9_findLedges_29 : decode cX9_findLedges 29 = .ok (.iconst (-1), 1) := by decide +kernel
theorem dX9_findLedges_30 : decode cX9_findLedges 30 = .ok (.iastore, 1) := by decide +kernel
theorem dX9_findLedges_31 : decode cX9_findLedges 31 = .ok (.aload_n 0, 1) := by decide +kernel
theorem dX9_findLedges_32 : decode cX9_findLedges 32 = .ok (.iload_n 2, 1) := by decide +kernel
theorem dX9_findLedges_33 : decode cX9_findLedges 33 = .ok (.iload_n 3, 1) := by decide +kernel
theorem dX9_findLedges_34 : decode cX9_findLedges 34 = .ok (.invokevirtual 69, 3) := by decide +kernel
theorem dX9_findLedges_37 : decode cX9_findLedges 37 = .ok (.ifCond .eq 76, 3) := by decide +kernel
theorem dX9_findLedges_40 : decode cX9_findLedges 40 = .ok (.iload_n 2, 1) := by decide +kernel
theorem dX9_findLedges_41 : decode cX9_findLedges 41 = .ok (.ifCond .eq 15, 3) := by decide +kernel
theorem dX9_findLedges_44 : decode cX9_findLedges 44 = .ok (.aload_n 0, 1) := by decide +kernel
theorem dX9_findLedges_45 : decode cX9_findLedges 45 = .ok (.getfield 26, 3) := by decide +kernel
theorem dX9_findLedges_48 : decode cX9_findLedges 48 = .ok (.iload_n 1, 1) := by decide +kernel
theorem dX9_findLedges_49 : decode cX9_findLedges 49 = .ok (.iconst 1, 1) := by decide +kernel
theorem dX9_findLedges_50 : decode cX9_findLedges 50 = .ok (.isub, 1) := by decide +kernel
theorem dX9_findLedges_51 : decode cX9_findLedges 51 = .ok (.iaload, 1) := by decide +kernel
theorem dX9_findLedges_52 : decode cX9_findLedges 52 = .ok (.iconst (-1), 1) := by decide +kernel
theorem dX9_findLedges_53 : decode cX9_findLedges 53 = .ok (.if_icmp .ne 33, 3) := by decide +kernel
theorem dX9_findLedges_56 : decode cX9_findLedges 56 = .ok (.aload_n 0, 1) := by decide +kernel
theorem dX9_findLedges_57 : decode cX9_findLedges 57 = .ok (.getfield 29, 3) := by decide +kernel
theorem dX9_findLedges_60 : decode cX9_findLedges 60 = .ok (.aload_n 0, 1) := by decide +kernel
theorem dX9_findLedges_61 : decode cX9_findLedges 61 = .ok (.getfield 66, 3) := by decide +kernel
theorem dX9_findLedges_64 : decode cX9_findLedges 64 = .ok (.iload_n 1, 1) := by decide +kernel
theorem dX9_findLedges_65 : decode cX9_findLedges 65 = .ok (.iastore, 1) := by decide +kernel
theorem dX9_findLedges_66 : decode cX9_findLedges 66 = .ok (.aload_n 0, 1) := by decide +kernel
theorem dX9_findLedges_67 : decode cX9_findLedges 67 = .ok (.getfield 32, 3) := by decide +kernel
theorem dX9_findLedges_70 : decode cX9_findLedges 70 = .ok (.aload_n 0, 1) := by decide +kernel
theorem dX9_findLedges_71 : decode cX9_findLedges 71 = .ok (.getfield 66, 3) := by decide +kernel
theorem dX9_findLedges_74 : decode cX9_findLedges 74 = .ok (.iconst 0, 1) := by decide +kernel
theorem dX9_findLedges_75 : decode cX9_findLedges 75 = .ok (.iastore, 1) := by decide +kernel
theorem dX9_findLedges_76 : decode cX9_findLedges 76 = .ok (.aload_n 0, 1) := by decide +kernel
theorem dX9_findLedges_77 : decode cX9_findLedges 77 = .ok (.dup, 1) := by decide +kernel
theorem dX9_findLedges_78 : decode cX9_findLedges 78 = .ok (.getfield 66, 3) := by decide +kernel
theorem dX9_findLedges_81 : decode cX9_findLedges 81 = .ok (.iconst 1, 1) := by decide +kernel
theorem dX9_findLedges_82 : decode cX9_findLedges 82 = .ok (.iadd, 1) := by decide +kernel
theorem dX9_findLedges_83 : decode cX9_findLedges 83 = .ok (.putfield 66, 3) := by decide +kernel
theorem dX9_findLedges_86 : decode cX9_findLedges 86 = .ok (.aload_n 0, 1) := by decide +kernel
theorem dX9_findLedges_87 : decode cX9_findLedges 87 = .ok (.getfield 26, 3) := by decide +kernel
theorem dX9_findLedges_90 : decode cX9_findLedges 90 = .ok (.iload_n 1, 1) := by decide +kernel
theorem dX9_findLedges_91 : decode cX9_findLedges 91 = .ok (.aload_n 0, 1) := by decide +kernel
theorem dX9_findLedges_92 : decode cX9_findLedges 92 = .ok (.getfield 66, 3) := by decide +kernel
theorem dX9_findLedges_95 : decode cX9_findLedges 95 = .ok (.iconst 1, 1) := by decide +kernel
theorem dX9_findLedges_96 : decode cX9_findLedges 96 = .ok (.isub, 1) := by decide +kernel
theorem dX9_findLedges_97 : decode cX9_findLedges 97 = .ok (.iastore, 1) := by decide +kernel
theorem dX9_findLedges_98 : decode cX9_findLedges 98 = .ok (.aload_n 0, 1) := by decide +kernel
theorem dX9_findLedges_99 : decode cX9_findLedges 99 = .ok (.getfield 32, 3) := by decide +kernel
theorem dX9_findLedges_102 : decode cX9_findLedges 102 = .ok (.aload_n 0, 1) := by decide +kernel
theorem dX9_findLedges_103 : decode cX9_findLedges 103 = .ok (.getfield 66, 3) := by decide +kernel
theorem dX9_findLedges_106 : decode cX9_findLedges 106 = .ok (.iconst 1, 1) := by decide +kernel
theorem dX9_findLedges_107 : decode cX9_findLedges 107 = .ok (.isub, 1) := by decide +kernel
theorem dX9_findLedges_108 : decode cX9_findLedges 108 = .ok (.dup2, 1) := by decide +kernel
theorem dX9_findLedges_109 : decode cX9_findLedges 109 = .ok (.iaload, 1) := by decide +kernel
theorem dX9_findLedges_110 : decode cX9_findLedges 110 = .ok (.iconst 1, 1) := by decide +kernel
theorem dX9_findLedges_111 : decode cX9_findLedges 111 = .ok (.iadd, 1) := by decide +kernel
theorem dX9_findLedges_112 : decode cX9_findLedges 112 = .ok (.iastore, 1) := by decide +kernel
theorem dX9_findLedges_113 : decode cX9_findLedges 113 = .ok (.iinc 1 1, 3) := by decide +kernel
theorem dX9_findLedges_116 : decode cX9_findLedges 116 = .ok (.goto (-109), 3) := by decide +kernel
theorem dX9_findLedges_119 : decode cX9_findLedges 119 = .ok (.return_, 1) := by decide +kernel
theorem dX9_ledgeAt_0 : decode cX9_ledgeAt 0 = .ok (.aload_n 0, 1) := by decide +kernel
theorem dX9_ledgeAt_1 : decode cX9_ledgeAt 1 = .ok (.getfield 26, 3) := by decide +kernel
theorem dX9_ledgeAt_4 : decode cX9_ledgeAt 4 = .ok (.bipush 20, 2) := by decide +kernel
theorem dX9_ledgeAt_6 : decode cX9_ledgeAt 6 = .ok (.iload_n 2, 1) := by decide +kernel
theorem dX9_ledgeAt_7 : decode cX9_ledgeAt 7 = .ok (.imul, 1) := by decide +kernel
theorem dX9_ledgeAt_8 : decode cX9_ledgeAt 8 = .ok (.iload_n 1, 1) := by decide +kernel
theorem dX9_ledgeAt_9 : decode cX9_ledgeAt 9 = .ok (.iadd, 1) := by decide +kernel
theorem dX9_ledgeAt_10 : decode cX9_ledgeAt 10 = .ok (.iaload, 1) := by decide +kernel
theorem dX9_ledgeAt_11 : decode cX9_ledgeAt 11 = .ok (.ireturn, 1) := by decide +kernel
set_option maxRecDepth 20000 in
theorem ggX9_ownLedge_X9_ledgeAt : GoodIn wsX9_ownLedge wsX9_ledgeAt := goodIn_r _ [6, 7, 8, 9, 10, 11, 12, 13, 14, 15, 16, 17, 18, 19, 20, 21, 22, 23, 24, 25, 26, 27, 28, 29, 30, 31, 32, 33] (by decide +kernel) (by decide +kernel)
set_option maxRecDepth 20000 in
theorem gX9_ownLedge_X9_ledgeAt : GoodIn wsX9_ownLedge (wsV RX9 72 RX9 yX9_ledgeAt wsX9_ledgeAt) := goodIn_app (goodIn_of _ (by decide +kernel)) ggX9_ownLedge_X9_ledgeAt
theorem dX9_ownLedge_0 : decode cX9_ownLedge 0 = .ok (.aload_n 0, 1) := by decide +kernel
theorem dX9_ownLedge_1 : decode cX9_ownLedge 1 = .ok (.aload_n 0, 1) := by decide +kernel
theorem dX9_ownLedge_2 : decode cX9_ownLedge 2 = .ok (.getfield 7, 3) := by decide +kernel
theorem dX9_ownLedge_5 : decode cX9_ownLedge 5 = .ok (.bipush 23, 2) := by decide +kernel
theorem dX9_ownLedge_7 : decode cX9_ownLedge 7 = .ok (.iaload, 1) := by decide +kernel
theorem dX9_ownLedge_8 : decode cX9_ownLedge 8 = .ok (.aload_n 0, 1) := by decide +kernel
theorem dX9_ownLedge_9 : decode cX9_ownLedge 9 = .ok (.getfield 7, 3) := by decide +kernel
theorem dX9_ownLedge_12 : decode cX9_ownLedge 12 = .ok (.bipush 24, 2) := by decide +kernel
theorem dX9_ownLedge_14 : decode cX9_ownLedge 14 = .ok (.iaload, 1) := by decide +kernel
theorem dX9_ownLedge_15 : decode cX9_ownLedge 15 = .ok (.invokevirtual 72, 3) := by decide +kernel
theorem dX9_ownLedge_18 : decode cX9_ownLedge 18 = .ok (.ireturn, 1) := by decide +kernel
set_option maxRecDepth 20000 in
theorem ggX9_greatestRun_X9_canStand : GoodIn wsX9_greatestRun wsX9_canStand := goodIn_r _ [5, 6, 7, 8, 4, 9, 10, 11, 12, 13, 14, 15, 16, 17, 18, 19, 20, 21, 22, 23, 24, 25, 26, 27, 28, 29, 30, 31, 32, 33, 34, 35, 36, 37, 38, 39, 40, 41, 42] (by decide +kernel) (by decide +kernel)
set_option maxRecDepth 20000 in
theorem gX9_greatestRun_X9_canStand : GoodIn wsX9_greatestRun (wsV RX9 69 RX9 yX9_canStand wsX9_canStand) := goodIn_app (goodIn_of _ (by decide +kernel)) ggX9_greatestRun_X9_canStand
theorem dX9_greatestRun_0 : decode cX9_greatestRun 0 = .ok (.aload_n 0, 1) := by decide +kernel
theorem dX9_greatestRun_1 : decode cX9_greatestRun 1 = .ok (.iload_n 1, 1) := by decide +kernel
theorem dX9_greatestRun_2 : decode cX9_greatestRun 2 = .ok (.iload_n 2, 1) := by decide +kernel
theorem dX9_greatestRun_3 : decode cX9_greatestRun 3 = .ok (.invokevirtual 69, 3) := by decide +kernel
theorem dX9_greatestRun_6 : decode cX9_greatestRun 6 = .ok (.ifCond .ne 5, 3) := by decide +kernel
theorem dX9_greatestRun_9 : decode cX9_greatestRun 9 = .ok (.iconst (-1), 1) := by decide +kernel
theorem dX9_greatestRun_10 : decode cX9_greatestRun 10 = .ok (.ireturn, 1) := by decide +kernel
theorem dX9_greatestRun_11 : decode cX9_greatestRun 11 = .ok (.iconst 0, 1) := by decide +kernel
theorem dX9_greatestRun_12 : decode cX9_greatestRun 12 = .ok (.istore 4, 2) := by decide +kernel
theorem dX9_greatestRun_14 : decode cX9_greatestRun 14 = .ok (.iload 4, 2) := by decide +kernel
theorem dX9_greatestRun_16 : decode cX9_greatestRun 16 = .ok (.iconst 3, 1) := by decide +kernel
theorem dX9_greatestRun_17 : decode cX9_greatestRun 17 = .ok (.if_icmp .ge 25, 3) := by decide +kernel
theorem dX9_greatestRun_20 : decode cX9_greatestRun 20 = .ok (.aload_n 0, 1) := by decide +kernel
theorem dX9_greatestRun_21 : decode cX9_greatestRun 21 = .ok (.iload_n 1, 1) := by decide +kernel
theorem dX9_greatestRun_22 : decode cX9_greatestRun 22 = .ok (.iload_n 3, 1) := by decide +kernel
theorem dX9_greatestRun_23 : decode cX9_greatestRun 23 = .ok (.iload 4, 2) := by decide +kernel
theorem dX9_greatestRun_25 : decode cX9_greatestRun 25 = .ok (.iconst 1, 1) := by decide +kernel
theorem dX9_greatestRun_26 : decode cX9_greatestRun 26 = .ok (.iadd, 1) := by decide +kernel
theorem dX9_greatestRun_27 : decode cX9_greatestRun 27 = .ok (.imul, 1) := by decide +kernel
theorem dX9_greatestRun_28 : decode cX9_greatestRun 28 = .ok (.isub, 1) := by decide +kernel
theorem dX9_greatestRun_29 : decode cX9_greatestRun 29 = .ok (.iload_n 2, 1) := by decide +kernel
theorem dX9_greatestRun_30 : decode cX9_greatestRun 30 = .ok (.invokevirtual 69, 3) := by decide +kernel
theorem dX9_greatestRun_33 : decode cX9_greatestRun 33 = .ok (.ifCond .eq 9, 3) := by decide +kernel
theorem dX9_greatestRun_36 : decode cX9_greatestRun 36 = .ok (.iinc 4 1, 3) := by decide +kernel
theorem dX9_greatestRun_39 : decode cX9_greatestRun 39 = .ok (.goto (-25), 3) := by decide +kernel
theorem dX9_greatestRun_42 : decode cX9_greatestRun 42 = .ok (.iload 4, 2) := by decide +kernel
theorem dX9_greatestRun_44 : decode cX9_greatestRun 44 = .ok (.ireturn, 1) := by decide +kernel
set_option maxRecDepth 20000 in
theorem ggX9_goUp_X9_isBlock : GoodIn wsX9_goUp wsX9_isBlock := goodIn_r _ [8, 9, 10, 11, 7, 12, 13, 14, 15, 16, 17, 18, 19, 20, 21, 22, 23, 24, 25, 26, 27, 28, 29, 30, 31, 32, 33, 34, 35, 36, 37, 38, 39, 40, 41] (by decide +kernel) (by decide +kernel)
set_option maxRecDepth 20000 in
theorem gX9_goUp_X9_isBlock : GoodIn wsX9_goUp (wsV RX9 56 RX9 yX9_isBlock wsX9_isBlock) := goodIn_app (goodIn_of _ (by decide +kernel)) ggX9_goUp_X9_isBlock
theorem dX9_goUp_0 : decode cX9_goUp 0 = .ok (.iconst 0, 1) := by decide +kernel
theorem dX9_goUp_1 : decode cX9_goUp 1 = .ok (.istore_n 2, 1) := by decide +kernel
theorem dX9_goUp_2 : decode cX9_goUp 2 = .ok (.iload_n 2, 1) := by decide +kernel
theorem dX9_goUp_3 : decode cX9_goUp 3 = .ok (.iload_n 1, 1) := by decide +kernel
theorem dX9_goUp_4 : decode cX9_goUp 4 = .ok (.if_icmp .ge 64, 3) := by decide +kernel
theorem dX9_goUp_7 : decode cX9_goUp 7 = .ok (.aload_n 0, 1) := by decide +kernel
theorem dX9_goUp_8 : decode cX9_goUp 8 = .ok (.aload_n 0, 1) := by decide +kernel
theorem dX9_goUp_9 : decode cX9_goUp 9 = .ok (.getfield 76, 3) := by decide +kernel
theorem dX9_goUp_12 : decode cX9_goUp 12 = .ok (.aload_n 0, 1) := by decide +kernel
theorem dX9_goUp_13 : decode cX9_goUp 13 = .ok (.getfield 79, 3) := by decide +kernel
theorem dX9_goUp_16 : decode cX9_goUp 16 = .ok (.iconst 1, 1) := by decide +kernel
theorem dX9_goUp_17 : decode cX9_goUp 17 = .ok (.iadd, 1) := by decide +kernel
theorem dX9_goUp_18 : decode cX9_goUp 18 = .ok (.invokevirtual 56, 3) := by decide +kernel
theorem dX9_goUp_21 : decode cX9_goUp 21 = .ok (.ifCond .eq 5, 3) := by decide +kernel
theorem dX9_goUp_24 : decode cX9_goUp 24 = .ok (.iconst 0, 1) := by decide +kernel
theorem dX9_goUp_25 : decode cX9_goUp 25 = .ok (.ireturn, 1) := by decide +kernel
theorem dX9_goUp_26 : decode cX9_goUp 26 = .ok (.aload_n 0, 1) := by decide +kernel
theorem dX9_goUp_27 : decode cX9_goUp 27 = .ok (.dup, 1) := by decide +kernel
theorem dX9_goUp_28 : decode cX9_goUp 28 = .ok (.getfield 79, 3) := by decide +kernel
theorem dX9_goUp_31 : decode cX9_goUp 31 = .ok (.iconst 1, 1) := by decide +kernel
theorem dX9_goUp_32 : decode cX9_goUp 32 = .ok (.iadd, 1) := by decide +kernel
theorem dX9_goUp_33 : decode cX9_goUp 33 = .ok (.putfield 79, 3) := by decide +kernel
theorem dX9_goUp_36 : decode cX9_goUp 36 = .ok (.aload_n 0, 1) := by decide +kernel
theorem dX9_goUp_37 : decode cX9_goUp 37 = .ok (.aload_n 0, 1) := by decide +kernel
theorem dX9_goUp_38 : decode cX9_goUp 38 = .ok (.getfield 79, 3) := by decide +kernel
theorem dX9_goUp_41 : decode cX9_goUp 41 = .ok (.aload_n 0, 1) := by decide +kernel
theorem dX9_goUp_42 : decode cX9_goUp 42 = .ok (.getfield 82, 3) := by decide +kernel
theorem dX9_goUp_45 : decode cX9_goUp 45 = .ok (.if_icmp .le 10, 3) := by decide +kernel
theorem dX9_goUp_48 : decode cX9_goUp 48 = .ok (.aload_n 0, 1) := by decide +kernel
theorem dX9_goUp_49 : decode cX9_goUp 49 = .ok (.getfield 79, 3) := by decide +kernel
theorem dX9_goUp_52 : decode cX9_goUp 52 = .ok (.goto 7, 3) := by decide +kernel
theorem dX9_goUp_55 : decode cX9_goUp 55 = .ok (.aload_n 0, 1) := by decide +kernel
theorem dX9_goUp_56 : decode cX9_goUp 56 = .ok (.getfield 82, 3) := by decide +kernel
theorem dX9_goUp_59 : decode cX9_goUp 59 = .ok (.putfield 82, 3) := by decide +kernel
theorem dX9_goUp_62 : decode cX9_goUp 62 = .ok (.iinc 2 1, 3) := by decide +kernel
theorem dX9_goUp_65 : decode cX9_goUp 65 = .ok (.goto (-63), 3) := by decide +kernel
theorem dX9_goUp_68 : decode cX9_goUp 68 = .ok (.iload_n 1, 1) := by decide +kernel
theorem dX9_goUp_69 : decode cX9_goUp 69 = .ok (.ireturn, 1) := by decide +kernel
set_option maxRecDepth 20000 in
theorem ggX9_goDown_X9_isBlock : GoodIn wsX9_goDown wsX9_isBlock := goodIn_r _ [7, 8, 9, 10, 6, 11, 12, 13, 14, 15, 16, 17, 18, 19, 20, 21, 22, 23, 24, 25, 26, 27, 28, 29, 30, 31, 32, 33, 34, 35, 36, 37, 38, 39, 40] (by decide +kernel) (by decide +kernel)
set_option maxRecDepth 20000 in
theorem gX9_goDown_X9_isBlock : GoodIn wsX9_goDown (wsV RX9 56 RX9 yX9_isBlock wsX9_isBlock) := goodIn_app (goodIn_of _ (by decide +kernel)) ggX9_goDown_X9_isBlock
theorem dX9_goDown_0 : decode cX9_goDown 0 = .ok (.iconst 0, 1) := by decide +kernel
theorem dX9_goDown_1 : decode cX9_goDown 1 = .ok (.istore_n 2, 1) := by decide +kernel
theorem dX9_goDown_2 : decode cX9_goDown 2 = .ok (.iload_n 2, 1) := by decide +kernel
theorem dX9_goDown_3 : decode cX9_goDown 3 = .ok (.iload_n 1, 1) := by decide +kernel
theorem dX9_goDown_4 : decode cX9_goDown 4 = .ok (.if_icmp .ge 38, 3) := by decide +kernel
theorem dX9_goDown_7 : decode cX9_goDown 7 = .ok (.aload_n 0, 1) := by decide +kernel
theorem dX9_goDown_8 : decode cX9_goDown 8 = .ok (.aload_n 0, 1) := by decide +kernel
theorem dX9_goDown_9 : decode cX9_goDown 9 = .ok (.getfield 76, 3) := by decide +kernel
theorem dX9_goDown_12 : decode cX9_goDown 12 = .ok (.aload_n 0, 1) := by decide +kernel
theorem dX9_goDown_13 : decode cX9_goDown 13 = .ok (.getfield 79, 3) := by decide +kernel
theorem dX9_goDown_16 : decode cX9_goDown 16 = .ok (.iconst 1, 1) := by decide +kernel
theorem dX9_goDown_17 : decode cX9_goDown 17 = .ok (.isub, 1) := by decide +kernel
theorem dX9_goDown_18 : decode cX9_goDown 18 = .ok (.invokevirtual 56, 3) := by decide +kernel
theorem dX9_goDown_21 : decode cX9_goDown 21 = .ok (.ifCond .eq 5, 3) := by decide +kernel
theorem dX9_goDown_24 : decode cX9_goDown 24 = .ok (.iconst 1, 1) := by decide +kernel
theorem dX9_goDown_25 : decode cX9_goDown 25 = .ok (.ireturn, 1) := by decide +kernel
theorem dX9_goDown_26 : decode cX9_goDown 26 = .ok (.aload_n 0, 1) := by decide +kernel
theorem dX9_goDown_27 : decode cX9_goDown 27 = .ok (.dup, 1) := by decide +kernel
theorem dX9_goDown_28 : decode cX9_goDown 28 = .ok (.getfield 79, 3) := by decide +kernel
theorem dX9_goDown_31 : decode cX9_goDown 31 = .ok (.iconst 1, 1) := by decide +kernel
theorem dX9_goDown_32 : decode cX9_goDown 32 = .ok (.isub, 1) := by decide +kernel
theorem dX9_goDown_33 : decode cX9_goDown 33 = .ok (.putfield 79, 3) := by decide +kernel
theorem dX9_goDown_36 : decode cX9_goDown 36 = .ok (.iinc 2 1, 3) := by decide +kernel
theorem dX9_goDown_39 : decode cX9_goDown 39 = .ok (.goto (-37), 3) := by decide +kernel
theorem dX9_goDown_42 : decode cX9_goDown 42 = .ok (.iconst 0, 1) := by decide +kernel
theorem dX9_goDown_43 : decode cX9_goDown 43 = .ok (.ireturn, 1) := by decide +kernel
set_option maxRecDepth 20000 in
theorem ggX9_tries_X9_greatestRun : GoodIn wsX9_tries wsX9_greatestRun := goodIn_r _ [11, 12, 13, 14, 10, 15, 16, 17, 18, 19, 6, 20, 21, 22, 23, 24, 25, 34, 35, 36, 37, 38, 39, 40, 41, 42, 43, 44, 45, 46, 47, 48, 49, 50, 51, 52, 53, 54, 55, 56, 57, 58, 59] (by decide +kernel) (by decide +kernel)
set_option maxRecDepth 20000 in
theorem gX9_tries_X9_greatestRun : GoodIn wsX9_tries (wsV RX9 85 RX9 yX9_greatestRun wsX9_greatestRun) := goodIn_app (goodIn_of _ (by decide +kernel)) ggX9_tries_X9_greatestRun
set_option maxRecDepth 20000 in
theorem ggX9_tries_X9_isBlock : GoodIn wsX9_tries wsX9_isBlock := goodIn_r _ [19, 6, 20, 21, 10, 22, 23, 24, 25, 34, 35, 36, 37, 38, 39, 40, 41, 42, 43, 44, 45, 46, 47, 48, 49, 50, 51, 52, 53, 54, 55, 56, 57, 58, 59] (by decide +kernel) (by decide +kernel)
set_option maxRecDepth 20000 in
theorem gX9_tries_X9_isBlock : GoodIn wsX9_tries (wsV RX9 56 RX9 yX9_isBlock wsX9_isBlock) := goodIn_app (goodIn_of _ (by decide +kernel)) ggX9_tries_X9_isBlock
set_option maxRecDepth 20000 in
theorem ggX9_tries_X9_goUp : GoodIn wsX9_tries wsX9_goUp := goodIn_r _ [29, 1, 2, 3, 16, 17, 18, 10, 19, 6, 20, 21, 22, 23, 24, 25, 34, 35, 36, 37, 38, 39, 40, 41, 42, 43, 44, 45, 46, 47, 48, 49, 50, 51, 52, 53, 54, 55, 56, 57, 58, 59] (by decide +kernel) (by decide +kernel)
set_option maxRecDepth 20000 in
theorem gX9_tries_X9_goUp : GoodIn wsX9_tries (wsV RX9 96 RX9 yX9_goUp wsX9_goUp) := goodIn_app (goodIn_of _ (by decide +kernel)) ggX9_tries_X9_goUp
set_option maxRecDepth 20000 in
theorem ggX9_tries_X9_goDown : GoodIn wsX9_tries wsX9_goDown := goodIn_r _ [33, 1, 2, 16, 17, 18, 10, 19, 6, 20, 21, 22, 23, 24, 25, 34, 35, 36, 37, 38, 39, 40, 41, 42, 43, 44, 45, 46, 47, 48, 49, 50, 51, 52, 53, 54, 55, 56, 57, 58, 59] (by decide +kernel) (by decide +kernel)
set_option maxRecDepth 20000 in
theorem gX9_tries_X9_goDown : GoodIn wsX9_tries (wsV RX9 100 RX9 yX9_goDown wsX9_goDown) := goodIn_app (goodIn_of _ (by decide +kernel)) ggX9_tries_X9_goDown
theorem dX9_tries_0 : decode cX9_tries 0 = .ok (.iload 4, 2) := by decide +kernel
theorem dX9_tries_2 : decode cX9_tries 2 = .ok (.aload_n 0, 1) := by decide +kernel
theorem dX9_tries_3 : decode cX9_tries 3 = .ok (.iload_n 1, 1) := by decide +kernel
theorem dX9_tries_4 : decode cX9_tries 4 = .ok (.iload_n 2, 1) := by decide +kernel
theorem dX9_tries_5 : decode cX9_tries 5 = .ok (.iload_n 3, 1) := by decide +kernel
theorem dX9_tries_6 : decode cX9_tries 6 = .ok (.invokevirtual 85, 3) := by decide +kernel
theorem dX9_tries_9 : decode cX9_tries 9 = .ok (.if_icmp .le 5, 3) := by decide +kernel
theorem dX9_tries_12 : decode cX9_tries 12 = .ok (.iconst 0, 1) := by decide +kernel
theorem dX9_tries_13 : decode cX9_tries 13 = .ok (.ireturn, 1) := by decide +kernel
theorem dX9_tries_14 : decode cX9_tries 14 = .ok (.aload_n 0, 1) := by decide +kernel
theorem dX9_tries_15 : decode cX9_tries 15 = .ok (.iload_n 1, 1) := by decide +kernel
theorem dX9_tries_16 : decode cX9_tries 16 = .ok (.putfield 76, 3) := by decide +kernel
theorem dX9_tries_19 : decode cX9_tries 19 = .ok (.aload_n 0, 1) := by decide +kernel
theorem dX9_tries_20 : decode cX9_tries 20 = .ok (.iload_n 2, 1) := by decide +kernel
theorem dX9_tries_21 : decode cX9_tries 21 = .ok (.putfield 79, 3) := by decide +kernel
theorem dX9_tries_24 : decode cX9_tries 24 = .ok (.aload_n 0, 1) := by decide +kernel
theorem dX9_tries_25 : decode cX9_tries 25 = .ok (.iload_n 2, 1) := by decide +kernel
theorem dX9_tries_26 : decode cX9_tries 26 = .ok (.putfield 82, 3) := by decide +kernel
theorem dX9_tries_29 : decode cX9_tries 29 = .ok (.aload_n 0, 1) := by decide +kernel
theorem dX9_tries_30 : decode cX9_tries 30 = .ok (.iconst 0, 1) := by decide +kernel
theorem dX9_tries_31 : decode cX9_tries 31 = .ok (.putfield 89, 3) := by decide +kernel
theorem dX9_tries_34 : decode cX9_tries 34 = .ok (.aload_n 0, 1) := by decide +kernel
theorem dX9_tries_35 : decode cX9_tries 35 = .ok (.iconst 0, 1) := by decide +kernel
theorem dX9_tries_36 : decode cX9_tries 36 = .ok (.putfield 92, 3) := by decide +kernel
theorem dX9_tries_39 : decode cX9_tries 39 = .ok (.iload 4, 2) := by decide +kernel
theorem dX9_tries_41 : decode cX9_tries 41 = .ok (.iconst 1, 1) := by decide +kernel
theorem dX9_tries_42 : decode cX9_tries 42 = .ok (.iadd, 1) := by decide +kernel
theorem dX9_tries_43 : decode cX9_tries 43 = .ok (.istore 5, 2) := by decide +kernel
theorem dX9_tries_45 : decode cX9_tries 45 = .ok (.aload_n 0, 1) := by decide +kernel
theorem dX9_tries_46 : decode cX9_tries 46 = .ok (.getfield 7, 3) := by decide +kernel
theorem dX9_tries_49 : decode cX9_tries 49 = .ok (.bipush 20, 2) := by decide +kernel
theorem dX9_tries_51 : decode cX9_tries 51 = .ok (.iaload, 1) := by decide +kernel
theorem dX9_tries_52 : decode cX9_tries 52 = .ok (.istore 6, 2) := by decide +kernel
theorem dX9_tries_54 : decode cX9_tries 54 = .ok (.iconst 0, 1) := by decide +kernel
theorem dX9_tries_55 : decode cX9_tries 55 = .ok (.istore 7, 2) := by decide +kernel
theorem dX9_tries_57 : decode cX9_tries 57 = .ok (.iload 7, 2) := by decide +kernel
theorem dX9_tries_59 : decode cX9_tries 59 = .ok (.ifCond .ne 171, 3) := by decide +kernel
theorem dX9_tries_62 : decode cX9_tries 62 = .ok (.aload_n 0, 1) := by decide +kernel
theorem dX9_tries_63 : decode cX9_tries 63 = .ok (.dup, 1) := by decide +kernel
theorem dX9_tries_64 : decode cX9_tries 64 = .ok (.getfield 89, 3) := by decide +kernel
theorem dX9_tries_67 : decode cX9_tries 67 = .ok (.iconst 1, 1) := by decide +kernel
theorem dX9_tries_68 : decode cX9_tries 68 = .ok (.iadd, 1) := by decide +kernel
theorem dX9_tries_69 : decode cX9_tries 69 = .ok (.putfield 89, 3) := by decide +kernel
theorem dX9_tries_72 : decode cX9_tries 72 = .ok (.iload 5, 2) := by decide +kernel
theorem dX9_tries_74 : decode cX9_tries 74 = .ok (.istore 8, 2) := by decide +kernel
theorem dX9_tries_76 : decode cX9_tries 76 = .ok (.iconst 0, 1) := by decide +kernel
theorem dX9_tries_77 : decode cX9_tries 77 = .ok (.istore 9, 2) := by decide +kernel
theorem dX9_tries_79 : decode cX9_tries 79 = .ok (.iload 9, 2) := by decide +kernel
theorem dX9_tries_81 : decode cX9_tries 81 = .ok (.iload 8, 2) := by decide +kernel
theorem dX9_tries_83 : decode cX9_tries 83 = .ok (.if_icmp .ge 52, 3) := by decide +kernel
theorem dX9_tries_86 : decode cX9_tries 86 = .ok (.iload 5, 2) := by decide +kernel
theorem dX9_tries_88 : decode cX9_tries 88 = .ok (.ifCond .le 47, 3) := by decide +kernel
theorem dX9_tries_91 : decode cX9_tries 91 = .ok (.aload_n 0, 1) := by decide +kernel
theorem dX9_tries_92 : decode cX9_tries 92 = .ok (.aload_n 0, 1) := by decide +kernel
theorem dX9_tries_93 : decode cX9_tries 93 = .ok (.getfield 76, 3) := by decide +kernel
theorem dX9_tries_96 : decode cX9_tries 96 = .ok (.iload_n 3, 1) := by decide +kernel
theorem dX9_tries_97 : decode cX9_tries 97 = .ok (.iadd, 1) := by decide +kernel
theorem dX9_tries_98 : decode cX9_tries 98 = .ok (.aload_n 0, 1) := by decide +kernel
theorem dX9_tries_99 : decode cX9_tries 99 = .ok (.getfield 79, 3) := by decide +kernel
theorem dX9_tries_102 : decode cX9_tries 102 = .ok (.invokevirtual 56, 3) := by decide +kernel
theorem dX9_tries_105 : decode cX9_tries 105 = .ok (.ifCond .eq 14, 3) := by decide +kernel
theorem dX9_tries_108 : decode cX9_tries 108 = .ok (.iconst 0, 1) := by decide +kernel
theorem dX9_tries_109 : decode cX9_tries 109 = .ok (.istore 5, 2) := by decide +kernel
theorem dX9_tries_111 : decode cX9_tries 111 = .ok (.aload_n 0, 1) := by decide +kernel
theorem dX9_tries_112 : decode cX9_tries 112 = .ok (.iconst 1, 1) := by decide +kernel
theorem dX9_tries_113 : decode cX9_tries 113 = .ok (.putfield 92, 3) := by decide +kernel
theorem dX9_tries_116 : decode cX9_tries 116 = .ok (.goto 13, 3) := by decide +kernel
theorem dX9_tries_119 : decode cX9_tries 119 = .ok (.aload_n 0, 1) := by decide +kernel
theorem dX9_tries_120 : decode cX9_tries 120 = .ok (.dup, 1) := by decide +kernel
theorem dX9_tries_121 : decode cX9_tries 121 = .ok (.getfield 76, 3) := by decide +kernel
theorem dX9_tries_124 : decode cX9_tries 124 = .ok (.iload_n 3, 1) := by decide +kernel
theorem dX9_tries_125 : decode cX9_tries 125 = .ok (.iadd, 1) := by decide +kernel
theorem dX9_tries_126 : decode cX9_tries 126 = .ok (.putfield 76, 3) := by decide +kernel
theorem dX9_tries_129 : decode cX9_tries 129 = .ok (.iinc 9 1, 3) := by decide +kernel
theorem dX9_tries_132 : decode cX9_tries 132 = .ok (.goto (-53), 3) := by decide +kernel
theorem dX9_tries_135 : decode cX9_tries 135 = .ok (.iload 6, 2) := by decide +kernel
theorem dX9_tries_137 : decode cX9_tries 137 = .ok (.ifCond .le 14, 3) := by decide +kernel
theorem dX9_tries_140 : decode cX9_tries 140 = .ok (.aload_n 0, 1) := by decide +kernel
theorem dX9_tries_141 : decode cX9_tries 141 = .ok (.iload 6, 2) := by decide +kernel
theorem dX9_tries_143 : decode cX9_tries 143 = .ok (.invokevirtual 96, 3) := by decide +kernel
theorem dX9_tries_146 : decode cX9_tries 146 = .ok (.istore 6, 2) := by decide +kernel
theorem dX9_tries_148 : decode cX9_tries 148 = .ok (.goto 47, 3) := by decide +kernel
theorem dX9_tries_151 : decode cX9_tries 151 = .ok (.iload 6, 2) := by decide +kernel
theorem dX9_tries_153 : decode cX9_tries 153 = .ok (.ifCond .ge 42, 3) := by decide +kernel
theorem dX9_tries_156 : decode cX9_tries 156 = .ok (.aload_n 0, 1) := by decide +kernel
theorem dX9_tries_157 : decode cX9_tries 157 = .ok (.aload_n 0, 1) := by decide +kernel
theorem dX9_tries_158 : decode cX9_tries 158 = .ok (.getfield 92, 3) := by decide +kernel
theorem dX9_tries_161 : decode cX9_tries 161 = .ok (.ifCond .eq 26, 3) := by decide +kernel
theorem dX9_tries_164 : decode cX9_tries 164 = .ok (.iload 6, 2) := by decide +kernel
theorem dX9_tries_166 : decode cX9_tries 166 = .ok (.ineg, 1) := by decide +kernel
theorem dX9_tries_167 : decode cX9_tries 167 = .ok (.aload_n 0, 1) := by decide +kernel
theorem dX9_tries_168 : decode cX9_tries 168 = .ok (.getfield 7, 3) := by decide +kernel
theorem dX9_tries_171 : decode cX9_tries 171 = .ok (.bipush 22, 2) := by decide +kernel
theorem dX9_tries_173 : decode cX9_tries 173 = .ok (.iaload, 1) := by decide +kernel
theorem dX9_tries_174 : decode cX9_tries 174 = .ok (.if_icmp .le 13, 3) := by decide +kernel
theorem dX9_tries_177 : decode cX9_tries 177 = .ok (.aload_n 0, 1) := by decide +kernel
theorem dX9_tries_178 : decode cX9_tries 178 = .ok (.getfield 7, 3) := by decide +kernel
theorem dX9_tries_181 : decode cX9_tries 181 = .ok (.bipush 22, 2) := by decide +kernel
theorem dX9_tries_183 : decode cX9_tries 183 = .ok (.iaload, 1) := by decide +kernel
theorem dX9_tries_184 : decode cX9_tries 184 = .ok (.goto 6, 3) := by decide +kernel
theorem dX9_tries_187 : decode cX9_tries 187 = .ok (.iload 6, 2) := by decide +kernel
theorem dX9_tries_189 : decode cX9_tries 189 = .ok (.ineg, 1) := by decide +kernel
theorem dX9_tries_190 : decode cX9_tries 190 = .ok (.invokevirtual 100, 3) := by decide +kernel
theorem dX9_tries_193 : decode cX9_tries 193 = .ok (.istore 7, 2) := by decide +kernel
theorem dX9_tries_195 : decode cX9_tries 195 = .ok (.iload 6, 2) := by decide +kernel
theorem dX9_tries_197 : decode cX9_tries 197 = .ok (.iconst 1, 1) := by decide +kernel
theorem dX9_tries_198 : decode cX9_tries 198 = .ok (.isub, 1) := by decide +kernel
theorem dX9_tries_199 : decode cX9_tries 199 = .ok (.aload_n 0, 1) := by decide +kernel
theorem dX9_tries_200 : decode cX9_tries 200 = .ok (.getfield 7, 3) := by decide +kernel
theorem dX9_tries_203 : decode cX9_tries 203 = .ok (.bipush 21, 2) := by decide +kernel
theorem dX9_tries_205 : decode cX9_tries 205 = .ok (.iaload, 1) := by decide +kernel
theorem dX9_tries_206 : decode cX9_tries 206 = .ok (.ineg, 1) := by decide +kernel
theorem dX9_tries_207 : decode cX9_tries 207 = .ok (.if_icmp .ge 14, 3) := by decide +kernel
theorem dX9_tries_210 : decode cX9_tries 210 = .ok (.aload_n 0, 1) := by decide +kernel
theorem dX9_tries_211 : decode cX9_tries 211 = .ok (.getfield 7, 3) := by decide +kernel
theorem dX9_tries_214 : decode cX9_tries 214 = .ok (.bipush 21, 2) := by decide +kernel
theorem dX9_tries_216 : decode cX9_tries 216 = .ok (.iaload, 1) := by decide +kernel
theorem dX9_tries_217 : decode cX9_tries 217 = .ok (.ineg, 1) := by decide +kernel
theorem dX9_tries_218 : decode cX9_tries 218 = .ok (.goto 7, 3) := by decide +kernel
theorem dX9_tries_221 : decode cX9_tries 221 = .ok (.iload 6, 2) := by decide +kernel
theorem dX9_tries_223 : decode cX9_tries 223 = .ok (.iconst 1, 1) := by decide +kernel
theorem dX9_tries_224 : decode cX9_tries 224 = .ok (.isub, 1) := by decide +kernel
theorem dX9_tries_225 : decode cX9_tries 225 = .ok (.istore 6, 2) := by decide +kernel
theorem dX9_tries_227 : decode cX9_tries 227 = .ok (.goto (-170), 3) := by decide +kernel
theorem dX9_tries_230 : decode cX9_tries 230 = .ok (.iconst 1, 1) := by decide +kernel
theorem dX9_tries_231 : decode cX9_tries 231 = .ok (.ireturn, 1) := by decide +kernel
set_option maxRecDepth 20000 in
theorem ggX9_findReaches_X9_findLedges : GoodIn wsX9_findReaches wsX9_findLedges := goodIn_r _ [10, 1, 3, 11, 12, 13, 14, 15, 9, 16, 17, 18, 19, 20, 21, 22, 23, 24, 25, 26, 27, 51, 52, 53, 54, 55, 56, 57, 58, 59, 60, 61, 62, 63, 64, 65, 66, 67, 68, 69, 70, 71, 72, 73, 74, 75, 76] (by decide +kernel) (by decide +kernel)
set_option maxRecDepth 20000 in
theorem gX9_findReaches_X9_findLedges : GoodIn wsX9_findReaches (wsV RX9 104 RX9 yX9_findLedges wsX9_findLedges) := goodIn_app (goodIn_of _ (by decide +kernel)) ggX9_findReaches_X9_findLedges
set_option maxRecDepth 20000 in
theorem ggX9_findReaches_X9_tries : GoodIn wsX9_findReaches wsX9_tries := goodIn_r _ [31, 4, 5, 32, 33, 34, 21, 35, 36, 37, 9, 38, 13, 14, 15, 16, 17, 18, 19, 20, 22, 23, 24, 25, 26, 27, 39, 40, 41, 42, 43, 44, 45, 46, 51, 52, 53, 54, 55, 56, 57, 58, 59, 60, 61, 62, 63, 64, 65, 66, 67, 68, 69, 70, 71, 72, 73, 74, 75, 76] (by decide +kernel) (by decide +kernel)
set_option maxRecDepth 20000 in
theorem gX9_findReaches_X9_tries : GoodIn wsX9_findReaches (wsV RX9 107 RX9 yX9_tries wsX9_tries) := goodIn_app (goodIn_of _ (by decide +kernel)) ggX9_findReaches_X9_tries
set_option maxRecDepth 20000 in
theorem ggX9_findReaches_X9_ledgeAt : GoodIn wsX9_findReaches wsX9_ledgeAt := goodIn_r _ [50, 3, 51, 52, 53, 54, 55, 56, 57, 58, 59, 60, 61, 62, 63, 64, 65, 66, 67, 68, 69, 70, 71, 72, 73, 74, 75, 76] (by decide +kernel) (by decide +kernel)
set_option maxRecDepth 20000 in
theorem gX9_findReaches_X9_ledgeAt : GoodIn wsX9_findReaches (wsV RX9 72 RX9 yX9_ledgeAt wsX9_ledgeAt) := goodIn_app (goodIn_of _ (by decide +kernel)) ggX9_findReaches_X9_ledgeAt
theorem dX9_findReaches_0 : decode cX9_findReaches 0 = .ok (.aload_n 0, 1) := by decide +kernel
theorem dX9_findReaches_1 : decode cX9_findReaches 1 = .ok (.invokevirtual 104, 3) := by decide +kernel
theorem dX9_findReaches_4 : decode cX9_findReaches 4 = .ok (.iconst 0, 1) := by decide +kernel
theorem dX9_findReaches_5 : decode cX9_findReaches 5 = .ok (.istore_n 1, 1) := by decide +kernel
theorem dX9_findReaches_6 : decode cX9_findReaches 6 = .ok (.iload_n 1, 1) := by decide +kernel
theorem dX9_findReaches_7 : decode cX9_findReaches 7 = .ok (.aload_n 0, 1) := by decide +kernel
theorem dX9_findReaches_8 : decode cX9_findReaches 8 = .ok (.getfield 66, 3) := by decide +kernel
theorem dX9_findReaches_11 : decode cX9_findReaches 11 = .ok (.bipush 100, 2) := by decide +kernel
theorem dX9_findReaches_13 : decode cX9_findReaches 13 = .ok (.imul, 1) := by decide +kernel
theorem dX9_findReaches_14 : decode cX9_findReaches 14 = .ok (.if_icmp .ge 17, 3) := by decide +kernel
theorem dX9_findReaches_17 : decode cX9_findReaches 17 = .ok (.aload_n 0, 1) := by decide +kernel
theorem dX9_findReaches_18 : decode cX9_findReaches 18 = .ok (.getfield 35, 3) := by decide +kernel
theorem dX9_findReaches_21 : decode cX9_findReaches 21 = .ok (.iload_n 1, 1) := by decide +kernel
theorem dX9_findReaches_22 : decode cX9_findReaches 22 = .ok (.bipush 9, 2) := by decide +kernel
theorem dX9_findReaches_24 : decode cX9_findReaches 24 = .ok (.iastore, 1) := by decide +kernel
theorem dX9_findReaches_25 : decode cX9_findReaches 25 = .ok (.iinc 1 1, 3) := by decide +kernel
theorem dX9_findReaches_28 : decode cX9_findReaches 28 = .ok (.goto (-22), 3) := by decide +kernel
theorem dX9_findReaches_31 : decode cX9_findReaches 31 = .ok (.iconst 0, 1) := by decide +kernel
theorem dX9_findReaches_32 : decode cX9_findReaches 32 = .ok (.istore_n 1, 1) := by decide +kernel
theorem dX9_findReaches_33 : decode cX9_findReaches 33 = .ok (.iload_n 1, 1) := by decide +kernel
theorem dX9_findReaches_34 : decode cX9_findReaches 34 = .ok (.sipush 200, 3) := by decide +kernel
theorem dX9_findReaches_37 : decode cX9_findReaches 37 = .ok (.if_icmp .ge 111, 3) := by decide +kernel
theorem dX9_findReaches_40 : decode cX9_findReaches 40 = .ok (.iconst 0, 1) := by decide +kernel
theorem dX9_findReaches_41 : decode cX9_findReaches 41 = .ok (.istore_n 2, 1) := by decide +kernel
theorem dX9_findReaches_42 : decode cX9_findReaches 42 = .ok (.iload_n 2, 1) := by decide +kernel
theorem dX9_findReaches_43 : decode cX9_findReaches 43 = .ok (.bipush 8, 2) := by decide +kernel
theorem dX9_findReaches_45 : decode cX9_findReaches 45 = .ok (.if_icmp .ge 97, 3) := by decide +kernel
theorem dX9_findReaches_48 : decode cX9_findReaches 48 = .ok (.aload_n 0, 1) := by decide +kernel
theorem dX9_findReaches_49 : decode cX9_findReaches 49 = .ok (.getfield 26, 3) := by decide +kernel
theorem dX9_findReaches_52 : decode cX9_findReaches 52 = .ok (.iload_n 1, 1) := by decide +kernel
theorem dX9_findReaches_53 : decode cX9_findReaches 53 = .ok (.iaload, 1) := by decide +kernel
theorem dX9_findReaches_54 : decode cX9_findReaches 54 = .ok (.iconst (-1), 1) := by decide +kernel
theorem dX9_findReaches_55 : decode cX9_findReaches 55 = .ok (.if_icmp .eq 87, 3) := by decide +kernel
theorem dX9_findReaches_58 : decode cX9_findReaches 58 = .ok (.aload_n 0, 1) := by decide +kernel
theorem dX9_findReaches_59 : decode cX9_findReaches 59 = .ok (.iload_n 1, 1) := by decide +kernel
theorem dX9_findReaches_60 : decode cX9_findReaches 60 = .ok (.bipush 20, 2) := by decide +kernel
theorem dX9_findReaches_62 : decode cX9_findReaches 62 = .ok (.irem, 1) := by decide +kernel
theorem dX9_findReaches_63 : decode cX9_findReaches 63 = .ok (.iload_n 1, 1) := by decide +kernel
theorem dX9_findReaches_64 : decode cX9_findReaches 64 = .ok (.bipush 20, 2) := by decide +kernel
theorem dX9_findReaches_66 : decode cX9_findReaches 66 = .ok (.idiv, 1) := by decide +kernel
theorem dX9_findReaches_67 : decode cX9_findReaches 67 = .ok (.iconst 2, 1) := by decide +kernel
theorem dX9_findReaches_68 : decode cX9_findReaches 68 = .ok (.iload_n 2, 1) := by decide +kernel
theorem dX9_findReaches_69 : decode cX9_findReaches 69 = .ok (.iconst 2, 1) := by decide +kernel
theorem dX9_findReaches_70 : decode cX9_findReaches 70 = .ok (.irem, 1) := by decide +kernel
theorem dX9_findReaches_71 : decode cX9_findReaches 71 = .ok (.imul, 1) := by decide +kernel
theorem dX9_findReaches_72 : decode cX9_findReaches 72 = .ok (.iconst 1, 1) := by decide +kernel
theorem dX9_findReaches_73 : decode cX9_findReaches 73 = .ok (.isub, 1) := by decide +kernel
theorem dX9_findReaches_74 : decode cX9_findReaches 74 = .ok (.iload_n 2, 1) := by decide +kernel
theorem dX9_findReaches_75 : decode cX9_findReaches 75 = .ok (.iconst 2, 1) := by decide +kernel
theorem dX9_findReaches_76 : decode cX9_findReaches 76 = .ok (.idiv, 1) := by decide +kernel
theorem dX9_findReaches_77 : decode cX9_findReaches 77 = .ok (.invokevirtual 107, 3) := by decide +kernel
theorem dX9_findReaches_80 : decode cX9_findReaches 80 = .ok (.ifCond .eq 56, 3) := by decide +kernel
theorem dX9_findReaches_83 : decode cX9_findReaches 83 = .ok (.bipush 100, 2) := by decide +kernel
theorem dX9_findReaches_85 : decode cX9_findReaches 85 = .ok (.aload_n 0, 1) := by decide +kernel
theorem dX9_findReaches_86 : decode cX9_findReaches 86 = .ok (.getfield 26, 3) := by decide +kernel
theorem dX9_findReaches_89 : decode cX9_findReaches 89 = .ok (.iload_n 1, 1) := by decide +kernel
theorem dX9_findReaches_90 : decode cX9_findReaches 90 = .ok (.iaload, 1) := by decide +kernel
theorem dX9_findReaches_91 : decode cX9_findReaches 91 = .ok (.imul, 1) := by decide +kernel
theorem dX9_findReaches_92 : decode cX9_findReaches 92 = .ok (.aload_n 0, 1) := by decide +kernel
theorem dX9_findReaches_93 : decode cX9_findReaches 93 = .ok (.aload_n 0, 1) := by decide +kernel
theorem dX9_findReaches_94 : decode cX9_findReaches 94 = .ok (.getfield 76, 3) := by decide +kernel
theorem dX9_findReaches_97 : decode cX9_findReaches 97 = .ok (.aload_n 0, 1) := by decide +kernel
theorem dX9_findReaches_98 : decode cX9_findReaches 98 = .ok (.getfield 79, 3) := by decide +kernel
theorem dX9_findReaches_101 : decode cX9_findReaches 101 = .ok (.invokevirtual 72, 3) := by decide +kernel
theorem dX9_findReaches_104 : decode cX9_findReaches 104 = .ok (.iadd, 1) := by decide +kernel
theorem dX9_findReaches_105 : decode cX9_findReaches 105 = .ok (.istore_n 3, 1) := by decide +kernel
theorem dX9_findReaches_106 : decode cX9_findReaches 106 = .ok (.aload_n 0, 1) := by decide +kernel
theorem dX9_findReaches_107 : decode cX9_findReaches 107 = .ok (.getfield 35, 3) := by decide +kernel
theorem dX9_findReaches_110 : decode cX9_findReaches 110 = .ok (.iload_n 3, 1) := by decide +kernel
theorem dX9_findReaches_111 : decode cX9_findReaches 111 = .ok (.iload_n 2, 1) := by decide +kernel
theorem dX9_findReaches_112 : decode cX9_findReaches 112 = .ok (.iconst 2, 1) := by decide +kernel
theorem dX9_findReaches_113 : decode cX9_findReaches 113 = .ok (.idiv, 1) := by decide +kernel
theorem dX9_findReaches_114 : decode cX9_findReaches 114 = .ok (.aload_n 0, 1) := by decide +kernel
theorem dX9_findReaches_115 : decode cX9_findReaches 115 = .ok (.getfield 35, 3) := by decide +kernel
theorem dX9_findReaches_118 : decode cX9_findReaches 118 = .ok (.iload_n 3, 1) := by decide +kernel
theorem dX9_findReaches_119 : decode cX9_findReaches 119 = .ok (.iaload, 1) := by decide +kernel
theorem dX9_findReaches_120 : decode cX9_findReaches 120 = .ok (.if_icmp .ge 9, 3) := by decide +kernel
theorem dX9_findReaches_123 : decode cX9_findReaches 123 = .ok (.iload_n 2, 1) := by decide +kernel
theorem dX9_findReaches_124 : decode cX9_findReaches 124 = .ok (.iconst 2, 1) := by decide +kernel
theorem dX9_findReaches_125 : decode cX9_findReaches 125 = .ok (.idiv, 1) := by decide +kernel
theorem dX9_findReaches_126 : decode cX9_findReaches 126 = .ok (.goto 9, 3) := by decide +kernel
theorem dX9_findReaches_129 : decode cX9_findReaches 129 = .ok (.aload_n 0, 1) := by decide +kernel
theorem dX9_findReaches_130 : decode cX9_findReaches 130 = .ok (.getfield 35, 3) := by decide +kernel
theorem dX9_findReaches_133 : decode cX9_findReaches 133 = .ok (.iload_n 3, 1) := by decide +kernel
theorem dX9_findReaches_134 : decode cX9_findReaches 134 = .ok (.iaload, 1) := by decide +kernel
theorem dX9_findReaches_135 : decode cX9_findReaches 135 = .ok (.iastore, 1) := by decide +kernel
theorem dX9_findReaches_136 : decode cX9_findReaches 136 = .ok (.iinc 2 1, 3) := by decide +kernel
theorem dX9_findReaches_139 : decode cX9_findReaches 139 = .ok (.goto (-97), 3) := by decide +kernel
theorem dX9_findReaches_142 : decode cX9_findReaches 142 = .ok (.iinc 1 1, 3) := by decide +kernel
theorem dX9_findReaches_145 : decode cX9_findReaches 145 = .ok (.goto (-112), 3) := by decide +kernel
theorem dX9_findReaches_148 : decode cX9_findReaches 148 = .ok (.return_, 1) := by decide +kernel
theorem dX9_comesTo_0 : decode cX9_comesTo 0 = .ok (.aload_n 0, 1) := by decide +kernel
theorem dX9_comesTo_1 : decode cX9_comesTo 1 = .ok (.getfield 35, 3) := by decide +kernel
theorem dX9_comesTo_4 : decode cX9_comesTo 4 = .ok (.bipush 100, 2) := by decide +kernel
theorem dX9_comesTo_6 : decode cX9_comesTo 6 = .ok (.iload_n 1, 1) := by decide +kernel
theorem dX9_comesTo_7 : decode cX9_comesTo 7 = .ok (.imul, 1) := by decide +kernel
theorem dX9_comesTo_8 : decode cX9_comesTo 8 = .ok (.iload_n 2, 1) := by decide +kernel
theorem dX9_comesTo_9 : decode cX9_comesTo 9 = .ok (.iadd, 1) := by decide +kernel
theorem dX9_comesTo_10 : decode cX9_comesTo 10 = .ok (.iaload, 1) := by decide +kernel
theorem dX9_comesTo_11 : decode cX9_comesTo 11 = .ok (.iload_n 3, 1) := by decide +kernel
theorem dX9_comesTo_12 : decode cX9_comesTo 12 = .ok (.if_icmp .gt 7, 3) := by decide +kernel
theorem dX9_comesTo_15 : decode cX9_comesTo 15 = .ok (.iconst 1, 1) := by decide +kernel
theorem dX9_comesTo_16 : decode cX9_comesTo 16 = .ok (.goto 4, 3) := by decide +kernel
theorem dX9_comesTo_19 : decode cX9_comesTo 19 = .ok (.iconst 0, 1) := by decide +kernel
theorem dX9_comesTo_20 : decode cX9_comesTo 20 = .ok (.ireturn, 1) := by decide +kernel
set_option maxRecDepth 20000 in
theorem ggX9_spread_X9_comesTo : GoodIn wsX9_spread wsX9_comesTo := goodIn_r _ [7, 8, 9, 10, 11, 12, 13, 14, 15, 16, 17, 18, 19, 20, 21, 22, 23, 24, 25, 26, 27, 28, 29, 30, 31, 32, 33, 34] (by decide +kernel) (by decide +kernel)
set_option maxRecDepth 20000 in
theorem gX9_spread_X9_comesTo : GoodIn wsX9_spread (wsV RX9 111 RX9 yX9_comesTo wsX9_comesTo) := goodIn_app (goodIn_of _ (by decide +kernel)) ggX9_spread_X9_comesTo
theorem dX9_spread_0 : decode cX9_spread 0 = .ok (.iconst 0, 1) := by decide +kernel
theorem dX9_spread_1 : decode cX9_spread 1 = .ok (.istore_n 3, 1) := by decide +kernel
theorem dX9_spread_2 : decode cX9_spread 2 = .ok (.iload_n 3, 1) := by decide +kernel
theorem dX9_spread_3 : decode cX9_spread 3 = .ok (.aload_n 0, 1) := by decide +kernel
theorem dX9_spread_4 : decode cX9_spread 4 = .ok (.getfield 66, 3) := by decide +kernel
theorem dX9_spread_7 : decode cX9_spread 7 = .ok (.if_icmp .ge 25, 3) := by decide +kernel
theorem dX9_spread_10 : decode cX9_spread 10 = .ok (.aload_n 0, 1) := by decide +kernel
theorem dX9_spread_11 : decode cX9_spread 11 = .ok (.getfield 38, 3) := by decide +kernel
theorem dX9_spread_14 : decode cX9_spread 14 = .ok (.iload_n 3, 1) := by decide +kernel
theorem dX9_spread_15 : decode cX9_spread 15 = .ok (.iload_n 3, 1) := by decide +kernel
theorem dX9_spread_16 : decode cX9_spread 16 = .ok (.iload_n 1, 1) := by decide +kernel
theorem dX9_spread_17 : decode cX9_spread 17 = .ok (.if_icmp .ne 7, 3) := by decide +kernel
theorem dX9_spread_20 : decode cX9_spread 20 = .ok (.iconst 0, 1) := by decide +kernel
theorem dX9_spread_21 : decode cX9_spread 21 = .ok (.goto 4, 3) := by decide +kernel
theorem dX9_spread_24 : decode cX9_spread 24 = .ok (.iconst (-1), 1) := by decide +kernel
theorem dX9_spread_25 : decode cX9_spread 25 = .ok (.iastore, 1) := by decide +kernel
theorem dX9_spread_26 : decode cX9_spread 26 = .ok (.iinc 3 1, 3) := by decide +kernel
theorem dX9_spread_29 : decode cX9_spread 29 = .ok (.goto (-27), 3) := by decide +kernel
theorem dX9_spread_32 : decode cX9_spread 32 = .ok (.iconst 1, 1) := by decide +kernel
theorem dX9_spread_33 : decode cX9_spread 33 = .ok (.istore_n 3, 1) := by decide +kernel
theorem dX9_spread_34 : decode cX9_spread 34 = .ok (.iconst 0, 1) := by decide +kernel
theorem dX9_spread_35 : decode cX9_spread 35 = .ok (.istore 4, 2) := by decide +kernel
theorem dX9_spread_37 : decode cX9_spread 37 = .ok (.iload_n 3, 1) := by decide +kernel
theorem dX9_spread_38 : decode cX9_spread 38 = .ok (.ifCond .eq 95, 3) := by decide +kernel
theorem dX9_spread_41 : decode cX9_spread 41 = .ok (.iconst 0, 1) := by decide +kernel
theorem dX9_spread_42 : decode cX9_spread 42 = .ok (.istore_n 3, 1) := by decide +kernel
theorem dX9_spread_43 : decode cX9_spread 43 = .ok (.iconst 0, 1) := by decide +kernel
theorem dX9_spread_44 : decode cX9_spread 44 = .ok (.istore 5, 2) := by decide +kernel
theorem dX9_spread_46 : decode cX9_spread 46 = .ok (.iload 5, 2) := by decide +kernel
theorem dX9_spread_48 : decode cX9_spread 48 = .ok (.aload_n 0, 1) := by decide +kernel
theorem dX9_spread_49 : decode cX9_spread 49 = .ok (.getfield 66, 3) := by decide +kernel
theorem dX9_spread_52 : decode cX9_spread 52 = .ok (.if_icmp .ge 75, 3) := by decide +kernel
theorem dX9_spread_55 : decode cX9_spread 55 = .ok (.iconst 0, 1) := by decide +kernel
theorem dX9_spread_56 : decode cX9_spread 56 = .ok (.istore 6, 2) := by decide +kernel
theorem dX9_spread_58 : decode cX9_spread 58 = .ok (.iload 6, 2) := by decide +kernel
theorem dX9_spread_60 : decode cX9_spread 60 = .ok (.aload_n 0, 1) := by decide +kernel
theorem dX9_spread_61 : decode cX9_spread 61 = .ok (.getfield 66, 3) := by decide +kernel
theorem dX9_spread_64 : decode cX9_spread 64 = .ok (.if_icmp .ge 57, 3) := by decide +kernel
theorem dX9_spread_67 : decode cX9_spread 67 = .ok (.aload_n 0, 1) := by decide +kernel
theorem dX9_spread_68 : decode cX9_spread 68 = .ok (.getfield 38, 3) := by decide +kernel
theorem dX9_spread_71 : decode cX9_spread 71 = .ok (.iload 5, 2) := by decide +kernel
theorem dX9_spread_73 : decode cX9_spread 73 = .ok (.iaload, 1) := by decide +kernel
theorem dX9_spread_74 : decode cX9_spread 74 = .ok (.iload 4, 2) := by decide +kernel
theorem dX9_spread_76 : decode cX9_spread 76 = .ok (.if_icmp .ne 45, 3) := by decide +kernel
theorem dX9_spread_79 : decode cX9_spread 79 = .ok (.aload_n 0, 1) := by decide +kernel
theorem dX9_spread_80 : decode cX9_spread 80 = .ok (.getfield 38, 3) := by decide +kernel
theorem dX9_spread_83 : decode cX9_spread 83 = .ok (.iload 6, 2) := by decide +kernel
theorem dX9_spread_85 : decode cX9_spread 85 = .ok (.iaload, 1) := by decide +kernel
theorem dX9_spread_86 : decode cX9_spread 86 = .ok (.iconst (-1), 1) := by decide +kernel
theorem dX9_spread_87 : decode cX9_spread 87 = .ok (.if_icmp .ne 28, 3) := by decide +kernel
theorem dX9_spread_90 : decode cX9_spread 90 = .ok (.aload_n 0, 1) := by decide +kernel
theorem dX9_spread_91 : decode cX9_spread 91 = .ok (.iload 5, 2) := by decide +kernel
theorem dX9_spread_93 : decode cX9_spread 93 = .ok (.iload 6, 2) := by decide +kernel
theorem dX9_spread_95 : decode cX9_spread 95 = .ok (.iload_n 2, 1) := by decide +kernel
theorem dX9_spread_96 : decode cX9_spread 96 = .ok (.invokevirtual 111, 3) := by decide +kernel
theorem dX9_spread_99 : decode cX9_spread 99 = .ok (.ifCond .eq 16, 3) := by decide +kernel
theorem dX9_spread_102 : decode cX9_spread 102 = .ok (.aload_n 0, 1) := by decide +kernel
theorem dX9_spread_103 : decode cX9_spread 103 = .ok (.getfield 38, 3) := by decide +kernel
theorem dX9_spread_106 : decode cX9_spread 106 = .ok (.iload 6, 2) := by decide +kernel
theorem dX9_spread_108 : decode cX9_spread 108 = .ok (.iload 4, 2) := by decide +kernel
theorem dX9_spread_110 : decode cX9_spread 110 = .ok (.iconst 1, 1) := by decide +kernel
theorem dX9_spread_111 : decode cX9_spread 111 = .ok (.iadd, 1) := by decide +kernel
theorem dX9_spread_112 : decode cX9_spread 112 = .ok (.iastore, 1) := by decide +kernel
theorem dX9_spread_113 : decode cX9_spread 113 = .ok (.iconst 1, 1) := by decide +kernel
theorem dX9_spread_114 : decode cX9_spread 114 = .ok (.istore_n 3, 1) := by decide +kernel
theorem dX9_spread_115 : decode cX9_spread 115 = .ok (.iinc 6 1, 3) := by decide +kernel
theorem dX9_spread_118 : decode cX9_spread 118 = .ok (.goto (-60), 3) := by decide +kernel
theorem dX9_spread_121 : decode cX9_spread 121 = .ok (.iinc 5 1, 3) := by decide +kernel
theorem dX9_spread_124 : decode cX9_spread 124 = .ok (.goto (-78), 3) := by decide +kernel
theorem dX9_spread_127 : decode cX9_spread 127 = .ok (.iinc 4 1, 3) := by decide +kernel
theorem dX9_spread_130 : decode cX9_spread 130 = .ok (.goto (-93), 3) := by decide +kernel
theorem dX9_spread_133 : decode cX9_spread 133 = .ok (.return_, 1) := by decide +kernel
set_option maxRecDepth 20000 in
theorem ggX9_awayFromRunner_X9_ownLedge : GoodIn wsX9_awayFromRunner wsX9_ownLedge := goodIn_r _ [7, 8, 9, 10, 11, 6, 12, 13, 23, 24, 25, 26, 27, 28, 29, 30, 31, 32, 33, 34, 35, 36, 37, 38, 39, 40, 41, 42, 43, 44, 45, 46, 47, 48] (by decide +kernel) (by decide +kernel)
set_option maxRecDepth 20000 in
theorem gX9_awayFromRunner_X9_ownLedge : GoodIn wsX9_awayFromRunner (wsV RX9 114 RX9 yX9_ownLedge wsX9_ownLedge) := goodIn_app (goodIn_of _ (by decide +kernel)) ggX9_awayFromRunner_X9_ownLedge
set_option maxRecDepth 20000 in
theorem ggX9_awayFromRunner_X9_spread : GoodIn wsX9_awayFromRunner wsX9_spread := goodIn_r _ [17, 1, 2, 18, 19, 20, 6, 21, 22, 23, 24, 25, 26, 27, 28, 29, 30, 31, 32, 33, 34, 35, 36, 37, 38, 39, 40, 41, 42, 43, 44, 45, 46, 47, 48] (by decide +kernel) (by decide +kernel)
set_option maxRecDepth 20000 in
theorem gX9_awayFromRunner_X9_spread : GoodIn wsX9_awayFromRunner (wsV RX9 118 RX9 yX9_spread wsX9_spread) := goodIn_app (goodIn_of _ (by decide +kernel)) ggX9_awayFromRunner_X9_spread
theorem dX9_awayFromRunner_0 : decode cX9_awayFromRunner 0 = .ok (.aload_n 0, 1) := by decide +kernel
theorem dX9_awayFromRunner_1 : decode cX9_awayFromRunner 1 = .ok (.aload_n 0, 1) := by decide +kernel
theorem dX9_awayFromRunner_2 : decode cX9_awayFromRunner 2 = .ok (.invokevirtual 114, 3) := by decide +kernel
theorem dX9_awayFromRunner_5 : decode cX9_awayFromRunner 5 = .ok (.iconst 3, 1) := by decide +kernel
theorem dX9_awayFromRunner_6 : decode cX9_awayFromRunner 6 = .ok (.invokevirtual 118, 3) := by decide +kernel
theorem dX9_awayFromRunner_9 : decode cX9_awayFromRunner 9 = .ok (.iconst 0, 1) := by decide +kernel
theorem dX9_awayFromRunner_10 : decode cX9_awayFromRunner 10 = .ok (.istore_n 1, 1) := by decide +kernel
theorem dX9_awayFromRunner_11 : decode cX9_awayFromRunner 11 = .ok (.iconst 0, 1) := by decide +kernel
theorem dX9_awayFromRunner_12 : decode cX9_awayFromRunner 12 = .ok (.istore_n 2, 1) := by decide +kernel
theorem dX9_awayFromRunner_13 : decode cX9_awayFromRunner 13 = .ok (.iload_n 2, 1) := by decide +kernel
theorem dX9_awayFromRunner_14 : decode cX9_awayFromRunner 14 = .ok (.aload_n 0, 1) := by decide +kernel
theorem dX9_awayFromRunner_15 : decode cX9_awayFromRunner 15 = .ok (.getfield 66, 3) := by decide +kernel
theorem dX9_awayFromRunner_18 : decode cX9_awayFromRunner 18 = .ok (.if_icmp .ge 27, 3) := by decide +kernel
theorem dX9_awayFromRunner_21 : decode cX9_awayFromRunner 21 = .ok (.iload_n 1, 1) := by decide +kernel
theorem dX9_awayFromRunner_22 : decode cX9_awayFromRunner 22 = .ok (.aload_n 0, 1) := by decide +kernel
theorem dX9_awayFromRunner_23 : decode cX9_awayFromRunner 23 = .ok (.getfield 38, 3) := by decide +kernel
theorem dX9_awayFromRunner_26 : decode cX9_awayFromRunner 26 = .ok (.iload_n 2, 1) := by decide +kernel
theorem dX9_awayFromRunner_27 : decode cX9_awayFromRunner 27 = .ok (.iaload, 1) := by decide +kernel
theorem dX9_awayFromRunner_28 : decode cX9_awayFromRunner 28 = .ok (.iconst (-1), 1) := by decide +kernel
theorem dX9_awayFromRunner_29 : decode cX9_awayFromRunner 29 = .ok (.if_icmp .ne 7, 3) := by decide +kernel
theorem dX9_awayFromRunner_32 : decode cX9_awayFromRunner 32 = .ok (.iconst 1, 1) := by decide +kernel
theorem dX9_awayFromRunner_33 : decode cX9_awayFromRunner 33 = .ok (.goto 4, 3) := by decide +kernel
theorem dX9_awayFromRunner_36 : decode cX9_awayFromRunner 36 = .ok (.iconst 0, 1) := by decide +kernel
theorem dX9_awayFromRunner_37 : decode cX9_awayFromRunner 37 = .ok (.iadd, 1) := by decide +kernel
theorem dX9_awayFromRunner_38 : decode cX9_awayFromRunner 38 = .ok (.istore_n 1, 1) := by decide +kernel
theorem dX9_awayFromRunner_39 : decode cX9_awayFromRunner 39 = .ok (.iinc 2 1, 3) := by decide +kernel
theorem dX9_awayFromRunner_42 : decode cX9_awayFromRunner 42 = .ok (.goto (-29), 3) := by decide +kernel
theorem dX9_awayFromRunner_45 : decode cX9_awayFromRunner 45 = .ok (.iload_n 1, 1) := by decide +kernel
theorem dX9_awayFromRunner_46 : decode cX9_awayFromRunner 46 = .ok (.ireturn, 1) := by decide +kernel
theorem dX9_refuse_0 : decode cX9_refuse 0 = .ok (.aload_n 0, 1) := by decide +kernel
theorem dX9_refuse_1 : decode cX9_refuse 1 = .ok (.getfield 7, 3) := by decide +kernel
theorem dX9_refuse_4 : decode cX9_refuse 4 = .ok (.bipush 27, 2) := by decide +kernel
theorem dX9_refuse_6 : decode cX9_refuse 6 = .ok (.dup2, 1) := by decide +kernel
theorem dX9_refuse_7 : decode cX9_refuse 7 = .ok (.iaload, 1) := by decide +kernel
theorem dX9_refuse_8 : decode cX9_refuse 8 = .ok (.iconst 1, 1) := by decide +kernel
theorem dX9_refuse_9 : decode cX9_refuse 9 = .ok (.iadd, 1) := by decide +kernel
theorem dX9_refuse_10 : decode cX9_refuse 10 = .ok (.iastore, 1) := by decide +kernel
theorem dX9_refuse_11 : decode cX9_refuse 11 = .ok (.iconst (-1), 1) := by decide +kernel
theorem dX9_refuse_12 : decode cX9_refuse 12 = .ok (.ireturn, 1) := by decide +kernel
set_option maxRecDepth 20000 in
theorem ggX9_doBuild_X9_refuse : GoodIn wsX9_doBuild wsX9_refuse := goodIn_r _ [6, 1, 21, 22, 23, 24, 25, 26, 27, 28, 29, 30, 31, 32, 33, 34, 35, 36, 37, 38, 39, 40, 41, 42, 43, 44, 45, 46] (by decide +kernel) (by decide +kernel)
set_option maxRecDepth 20000 in
theorem gX9_doBuild_X9_refuse : GoodIn wsX9_doBuild (wsV RX9 122 RX9 yX9_refuse wsX9_refuse) := goodIn_app (goodIn_of _ (by decide +kernel)) ggX9_doBuild_X9_refuse
set_option maxRecDepth 20000 in
theorem ggX9_doBuild_X9_canStand : GoodIn wsX9_doBuild wsX9_canStand := goodIn_r _ [10, 11, 12, 13, 5, 14, 1, 15, 16, 17, 18, 19, 20, 21, 22, 23, 24, 25, 26, 27, 28, 29, 30, 31, 32, 33, 34, 35, 36, 37, 38, 39, 40, 41, 42, 43, 44, 45, 46] (by decide +kernel) (by decide +kernel)
set_option maxRecDepth 20000 in
theorem gX9_doBuild_X9_canStand : GoodIn wsX9_doBuild (wsV RX9 69 RX9 yX9_canStand wsX9_canStand) := goodIn_app (goodIn_of _ (by decide +kernel)) ggX9_doBuild_X9_canStand
set_option maxRecDepth 20000 in
theorem ggX9_doBuild_X9_isBlock : GoodIn wsX9_doBuild wsX9_isBlock := goodIn_r _ [14, 1, 15, 16, 5, 17, 18, 19, 20, 21, 22, 23, 24, 25, 26, 27, 28, 29, 30, 31, 32, 33, 34, 35, 36, 37, 38, 39, 40, 41, 42, 43, 44, 45, 46] (by decide +kernel) (by decide +kernel)
set_option maxRecDepth 20000 in
theorem gX9_doBuild_X9_isBlock : GoodIn wsX9_doBuild (wsV RX9 56 RX9 yX9_isBlock wsX9_isBlock) := goodIn_app (goodIn_of _ (by decide +kernel)) ggX9_doBuild_X9_isBlock
theorem dX9_doBuild_0 : decode cX9_doBuild 0 = .ok (.iload_n 1, 1) := by decide +kernel
theorem dX9_doBuild_1 : decode cX9_doBuild 1 = .ok (.aload_n 0, 1) := by decide +kernel
theorem dX9_doBuild_2 : decode cX9_doBuild 2 = .ok (.getfield 7, 3) := by decide +kernel
theorem dX9_doBuild_5 : decode cX9_doBuild 5 = .ok (.bipush 23, 2) := by decide +kernel
theorem dX9_doBuild_7 : decode cX9_doBuild 7 = .ok (.iaload, 1) := by decide +kernel
theorem dX9_doBuild_8 : decode cX9_doBuild 8 = .ok (.if_icmp .ne 19, 3) := by decide +kernel
theorem dX9_doBuild_11 : decode cX9_doBuild 11 = .ok (.iload_n 2, 1) := by decide +kernel
theorem dX9_doBuild_12 : decode cX9_doBuild 12 = .ok (.aload_n 0, 1) := by decide +kernel
theorem dX9_doBuild_13 : decode cX9_doBuild 13 = .ok (.getfield 7, 3) := by decide +kernel
theorem dX9_doBuild_16 : decode cX9_doBuild 16 = .ok (.bipush 24, 2) := by decide +kernel
theorem dX9_doBuild_18 : decode cX9_doBuild 18 = .ok (.iaload, 1) := by decide +kernel
theorem dX9_doBuild_19 : decode cX9_doBuild 19 = .ok (.if_icmp .ne 8, 3) := by decide +kernel
theorem dX9_doBuild_22 : decode cX9_doBuild 22 = .ok (.aload_n 0, 1) := by decide +kernel
theorem dX9_doBuild_23 : decode cX9_doBuild 23 = .ok (.invokevirtual 122, 3) := by decide +kernel
theorem dX9_doBuild_26 : decode cX9_doBuild 26 = .ok (.ireturn, 1) := by decide +kernel
theorem dX9_doBuild_27 : decode cX9_doBuild 27 = .ok (.aload_n 0, 1) := by decide +kernel
theorem dX9_doBuild_28 : decode cX9_doBuild 28 = .ok (.getfield 7, 3) := by decide +kernel
theorem dX9_doBuild_31 : decode cX9_doBuild 31 = .ok (.iconst 0, 1) := by decide +kernel
theorem dX9_doBuild_32 : decode cX9_doBuild 32 = .ok (.iload_n 1, 1) := by decide +kernel
theorem dX9_doBuild_33 : decode cX9_doBuild 33 = .ok (.iadd, 1) := by decide +kernel
theorem dX9_doBuild_34 : decode cX9_doBuild 34 = .ok (.dup2, 1) := by decide +kernel
theorem dX9_doBuild_35 : decode cX9_doBuild 35 = .ok (.iaload, 1) := by decide +kernel
theorem dX9_doBuild_36 : decode cX9_doBuild 36 = .ok (.iconst 1, 1) := by decide +kernel
theorem dX9_doBuild_37 : decode cX9_doBuild 37 = .ok (.iload_n 2, 1) := by decide +kernel
theorem dX9_doBuild_38 : decode cX9_doBuild 38 = .ok (.ishl, 1) := by decide +kernel
theorem dX9_doBuild_39 : decode cX9_doBuild 39 = .ok (.ixor, 1) := by decide +kernel
theorem dX9_doBuild_40 : decode cX9_doBuild 40 = .ok (.iastore, 1) := by decide +kernel
theorem dX9_doBuild_41 : decode cX9_doBuild 41 = .ok (.aload_n 0, 1) := by decide +kernel
theorem dX9_doBuild_42 : decode cX9_doBuild 42 = .ok (.aload_n 0, 1) := by decide +kernel
theorem dX9_doBuild_43 : decode cX9_doBuild 43 = .ok (.getfield 7, 3) := by decide +kernel
theorem dX9_doBuild_46 : decode cX9_doBuild 46 = .ok (.bipush 23, 2) := by decide +kernel
theorem dX9_doBuild_48 : decode cX9_doBuild 48 = .ok (.iaload, 1) := by decide +kernel
theorem dX9_doBuild_49 : decode cX9_doBuild 49 = .ok (.aload_n 0, 1) := by decide +kernel
theorem dX9_doBuild_50 : decode cX9_doBuild 50 = .ok (.getfield 7, 3) := by decide +kernel
theorem dX9_doBuild_53 : decode cX9_doBuild 53 = .ok (.bipush 24, 2) := by decide +kernel
theorem dX9_doBuild_55 : decode cX9_doBuild 55 = .ok (.iaload, 1) := by decide +kernel
theorem dX9_doBuild_56 : decode cX9_doBuild 56 = .ok (.invokevirtual 69, 3) := by decide +kernel
theorem dX9_doBuild_59 : decode cX9_doBuild 59 = .ok (.ifCond .ne 17, 3) := by decide +kernel
theorem dX9_doBuild_62 : decode cX9_doBuild 62 = .ok (.aload_n 0, 1) := by decide +kernel
theorem dX9_doBuild_63 : decode cX9_doBuild 63 = .ok (.getfield 7, 3) := by decide +kernel
theorem dX9_doBuild_66 : decode cX9_doBuild 66 = .ok (.bipush 24, 2) := by decide +kernel
theorem dX9_doBuild_68 : decode cX9_doBuild 68 = .ok (.dup2, 1) := by decide +kernel
theorem dX9_doBuild_69 : decode cX9_doBuild 69 = .ok (.iaload, 1) := by decide +kernel
theorem dX9_doBuild_70 : decode cX9_doBuild 70 = .ok (.iconst 1, 1) := by decide +kernel
theorem dX9_doBuild_71 : decode cX9_doBuild 71 = .ok (.isub, 1) := by decide +kernel
theorem dX9_doBuild_72 : decode cX9_doBuild 72 = .ok (.iastore, 1) := by decide +kernel
theorem dX9_doBuild_73 : decode cX9_doBuild 73 = .ok (.goto (-32), 3) := by decide +kernel
theorem dX9_doBuild_76 : decode cX9_doBuild 76 = .ok (.aload_n 0, 1) := by decide +kernel
theorem dX9_doBuild_77 : decode cX9_doBuild 77 = .ok (.iload_n 1, 1) := by decide +kernel
theorem dX9_doBuild_78 : decode cX9_doBuild 78 = .ok (.iload_n 2, 1) := by decide +kernel
theorem dX9_doBuild_79 : decode cX9_doBuild 79 = .ok (.invokevirtual 56, 3) := by decide +kernel
theorem dX9_doBuild_82 : decode cX9_doBuild 82 = .ok (.ifCond .eq 7, 3) := by decide +kernel
theorem dX9_doBuild_85 : decode cX9_doBuild 85 = .ok (.iconst 1, 1) := by decide +kernel
theorem dX9_doBuild_86 : decode cX9_doBuild 86 = .ok (.goto 4, 3) := by decide +kernel
theorem dX9_doBuild_89 : decode cX9_doBuild 89 = .ok (.iconst 0, 1) := by decide +kernel
theorem dX9_doBuild_90 : decode cX9_doBuild 90 = .ok (.ireturn, 1) := by decide +kernel
set_option maxRecDepth 20000 in
theorem ggX9_doWalk_X9_canStand : GoodIn wsX9_doWalk wsX9_canStand := goodIn_r _ [6, 7, 8, 9, 5, 10, 1, 11, 12, 13, 14, 15, 16, 21, 22, 23, 24, 25, 26, 27, 28, 29, 30, 31, 32, 33, 34, 35, 36, 37, 38, 39, 40, 41, 42, 43, 44, 45, 46] (by decide +kernel) (by decide +kernel)
set_option maxRecDepth 20000 in
theorem gX9_doWalk_X9_canStand : GoodIn wsX9_doWalk (wsV RX9 69 RX9 yX9_canStand wsX9_canStand) := goodIn_app (goodIn_of _ (by decide +kernel)) ggX9_doWalk_X9_canStand
set_option maxRecDepth 20000 in
theorem ggX9_doWalk_X9_refuse : GoodIn wsX9_doWalk wsX9_refuse := goodIn_r _ [20, 1, 21, 22, 23, 24, 25, 26, 27, 28, 29, 30, 31, 32, 33, 34, 35, 36, 37, 38, 39, 40, 41, 42, 43, 44, 45, 46] (by decide +kernel) (by decide +kernel)
set_option maxRecDepth 20000 in
theorem gX9_doWalk_X9_refuse : GoodIn wsX9_doWalk (wsV RX9 122 RX9 yX9_refuse wsX9_refuse) := goodIn_app (goodIn_of _ (by decide +kernel)) ggX9_doWalk_X9_refuse
theorem dX9_doWalk_0 : decode cX9_doWalk 0 = .ok (.aload_n 0, 1) := by decide +kernel
theorem dX9_doWalk_1 : decode cX9_doWalk 1 = .ok (.aload_n 0, 1) := by decide +kernel
theorem dX9_doWalk_2 : decode cX9_doWalk 2 = .ok (.getfield 7, 3) := by decide +kernel
theorem dX9_doWalk_5 : decode cX9_doWalk 5 = .ok (.bipush 23, 2) := by decide +kernel
theorem dX9_doWalk_7 : decode cX9_doWalk 7 = .ok (.iaload, 1) := by decide +kernel
theorem dX9_doWalk_8 : decode cX9_doWalk 8 = .ok (.iload_n 1, 1) := by decide +kernel
theorem dX9_doWalk_9 : decode cX9_doWalk 9 = .ok (.iadd, 1) := by decide +kernel
theorem dX9_doWalk_10 : decode cX9_doWalk 10 = .ok (.aload_n 0, 1) := by decide +kernel
theorem dX9_doWalk_11 : decode cX9_doWalk 11 = .ok (.getfield 7, 3) := by decide +kernel
theorem dX9_doWalk_14 : decode cX9_doWalk 14 = .ok (.bipush 24, 2) := by decide +kernel
theorem dX9_doWalk_16 : decode cX9_doWalk 16 = .ok (.iaload, 1) := by decide +kernel
theorem dX9_doWalk_17 : decode cX9_doWalk 17 = .ok (.invokevirtual 69, 3) := by decide +kernel
theorem dX9_doWalk_20 : decode cX9_doWalk 20 = .ok (.ifCond .ne 8, 3) := by decide +kernel
theorem dX9_doWalk_23 : decode cX9_doWalk 23 = .ok (.aload_n 0, 1) := by decide +kernel
theorem dX9_doWalk_24 : decode cX9_doWalk 24 = .ok (.invokevirtual 122, 3) := by decide +kernel
theorem dX9_doWalk_27 : decode cX9_doWalk 27 = .ok (.ireturn, 1) := by decide +kernel
theorem dX9_doWalk_28 : decode cX9_doWalk 28 = .ok (.aload_n 0, 1) := by decide +kernel
theorem dX9_doWalk_29 : decode cX9_doWalk 29 = .ok (.getfield 7, 3) := by decide +kernel
theorem dX9_doWalk_32 : decode cX9_doWalk 32 = .ok (.bipush 23, 2) := by decide +kernel
theorem dX9_doWalk_34 : decode cX9_doWalk 34 = .ok (.dup2, 1) := by decide +kernel
theorem dX9_doWalk_35 : decode cX9_doWalk 35 = .ok (.iaload, 1) := by decide +kernel
theorem dX9_doWalk_36 : decode cX9_doWalk 36 = .ok (.iload_n 1, 1) := by decide +kernel
theorem dX9_doWalk_37 : decode cX9_doWalk 37 = .ok (.iadd, 1) := by decide +kernel
theorem dX9_doWalk_38 : decode cX9_doWalk 38 = .ok (.iastore, 1) := by decide +kernel
theorem dX9_doWalk_39 : decode cX9_doWalk 39 = .ok (.aload_n 0, 1) := by decide +kernel
theorem dX9_doWalk_40 : decode cX9_doWalk 40 = .ok (.getfield 7, 3) := by decide +kernel
theorem dX9_doWalk_43 : decode cX9_doWalk 43 = .ok (.bipush 23, 2) := by decide +kernel
theorem dX9_doWalk_45 : decode cX9_doWalk 45 = .ok (.iaload, 1) := by decide +kernel
theorem dX9_doWalk_46 : decode cX9_doWalk 46 = .ok (.ireturn, 1) := by decide +kernel
set_option maxRecDepth 20000 in
theorem ggX9_doLeap_X9_tries : GoodIn wsX9_doLeap wsX9_tries := goodIn_r _ [9, 2, 3, 10, 11, 4, 1, 12, 13, 14, 8, 15, 16, 17, 18, 19, 20, 21, 22, 23, 24, 25, 26, 27, 28, 29, 30, 31, 32, 33, 34, 35, 36, 37, 42, 43, 44, 45, 46, 47, 48, 49, 50, 51, 52, 53, 54, 55, 56, 57, 58, 59, 60, 61, 62, 63, 64, 65, 66, 67] (by decide +kernel) (by decide +kernel)
set_option maxRecDepth 20000 in
theorem gX9_doLeap_X9_tries : GoodIn wsX9_doLeap (wsV RX9 107 RX9 yX9_tries wsX9_tries) := goodIn_app (goodIn_of _ (by decide +kernel)) ggX9_doLeap_X9_tries
set_option maxRecDepth 20000 in
theorem ggX9_doLeap_X9_refuse : GoodIn wsX9_doLeap wsX9_refuse := goodIn_r _ [41, 1, 42, 43, 44, 45, 46, 47, 48, 49, 50, 51, 52, 53, 54, 55, 56, 57, 58, 59, 60, 61, 62, 63, 64, 65, 66, 67] (by decide +kernel) (by decide +kernel)
set_option maxRecDepth 20000 in
theorem gX9_doLeap_X9_refuse : GoodIn wsX9_doLeap (wsV RX9 122 RX9 yX9_refuse wsX9_refuse) := goodIn_app (goodIn_of _ (by decide +kernel)) ggX9_doLeap_X9_refuse
theorem dX9_doLeap_0 : decode cX9_doLeap 0 = .ok (.aload_n 0, 1) := by decide +kernel
theorem dX9_doLeap_1 : decode cX9_doLeap 1 = .ok (.aload_n 0, 1) := by decide +kernel
theorem dX9_doLeap_2 : decode cX9_doLeap 2 = .ok (.getfield 7, 3) := by decide +kernel
theorem dX9_doLeap_5 : decode cX9_doLeap 5 = .ok (.bipush 23, 2) := by decide +kernel
theorem dX9_doLeap_7 : decode cX9_doLeap 7 = .ok (.iaload, 1) := by decide +kernel
theorem dX9_doLeap_8 : decode cX9_doLeap 8 = .ok (.aload_n 0, 1) := by decide +kernel
theorem dX9_doLeap_9 : decode cX9_doLeap 9 = .ok (.getfield 7, 3) := by decide +kernel
theorem dX9_doLeap_12 : decode cX9_doLeap 12 = .ok (.bipush 24, 2) := by decide +kernel
theorem dX9_doLeap_14 : decode cX9_doLeap 14 = .ok (.iaload, 1) := by decide +kernel
theorem dX9_doLeap_15 : decode cX9_doLeap 15 = .ok (.iload_n 1, 1) := by decide +kernel
theorem dX9_doLeap_16 : decode cX9_doLeap 16 = .ok (.iload_n 2, 1) := by decide +kernel
theorem dX9_doLeap_17 : decode cX9_doLeap 17 = .ok (.invokevirtual 107, 3) := by decide +kernel
theorem dX9_doLeap_20 : decode cX9_doLeap 20 = .ok (.ifCond .ne 8, 3) := by decide +kernel
theorem dX9_doLeap_23 : decode cX9_doLeap 23 = .ok (.aload_n 0, 1) := by decide +kernel
theorem dX9_doLeap_24 : decode cX9_doLeap 24 = .ok (.invokevirtual 122, 3) := by decide +kernel
theorem dX9_doLeap_27 : decode cX9_doLeap 27 = .ok (.ireturn, 1) := by decide +kernel
theorem dX9_doLeap_28 : decode cX9_doLeap 28 = .ok (.aload_n 0, 1) := by decide +kernel
theorem dX9_doLeap_29 : decode cX9_doLeap 29 = .ok (.getfield 7, 3) := by decide +kernel
theorem dX9_doLeap_32 : decode cX9_doLeap 32 = .ok (.bipush 23, 2) := by decide +kernel
theorem dX9_doLeap_34 : decode cX9_doLeap 34 = .ok (.aload_n 0, 1) := by decide +kernel
theorem dX9_doLeap_35 : decode cX9_doLeap 35 = .ok (.getfield 76, 3) := by decide +kernel
theorem dX9_doLeap_38 : decode cX9_doLeap 38 = .ok (.iastore, 1) := by decide +kernel
theorem dX9_doLeap_39 : decode cX9_doLeap 39 = .ok (.aload_n 0, 1) := by decide +kernel
theorem dX9_doLeap_40 : decode cX9_doLeap 40 = .ok (.getfield 7, 3) := by decide +kernel
theorem dX9_doLeap_43 : decode cX9_doLeap 43 = .ok (.bipush 24, 2) := by decide +kernel
theorem dX9_doLeap_45 : decode cX9_doLeap 45 = .ok (.aload_n 0, 1) := by decide +kernel
theorem dX9_doLeap_46 : decode cX9_doLeap 46 = .ok (.getfield 79, 3) := by decide +kernel
theorem dX9_doLeap_49 : decode cX9_doLeap 49 = .ok (.iastore, 1) := by decide +kernel
theorem dX9_doLeap_50 : decode cX9_doLeap 50 = .ok (.aload_n 0, 1) := by decide +kernel
theorem dX9_doLeap_51 : decode cX9_doLeap 51 = .ok (.getfield 7, 3) := by decide +kernel
theorem dX9_doLeap_54 : decode cX9_doLeap 54 = .ok (.bipush 25, 2) := by decide +kernel
theorem dX9_doLeap_56 : decode cX9_doLeap 56 = .ok (.dup2, 1) := by decide +kernel
theorem dX9_doLeap_57 : decode cX9_doLeap 57 = .ok (.iaload, 1) := by decide +kernel
theorem dX9_doLeap_58 : decode cX9_doLeap 58 = .ok (.iconst 1, 1) := by decide +kernel
theorem dX9_doLeap_59 : decode cX9_doLeap 59 = .ok (.iadd, 1) := by decide +kernel
theorem dX9_doLeap_60 : decode cX9_doLeap 60 = .ok (.iastore, 1) := by decide +kernel
theorem dX9_doLeap_61 : decode cX9_doLeap 61 = .ok (.aload_n 0, 1) := by decide +kernel
theorem dX9_doLeap_62 : decode cX9_doLeap 62 = .ok (.getfield 7, 3) := by decide +kernel
theorem dX9_doLeap_65 : decode cX9_doLeap 65 = .ok (.bipush 26, 2) := by decide +kernel
theorem dX9_doLeap_67 : decode cX9_doLeap 67 = .ok (.dup2, 1) := by decide +kernel
theorem dX9_doLeap_68 : decode cX9_doLeap 68 = .ok (.iaload, 1) := by decide +kernel
theorem dX9_doLeap_69 : decode cX9_doLeap 69 = .ok (.aload_n 0, 1) := by decide +kernel
theorem dX9_doLeap_70 : decode cX9_doLeap 70 = .ok (.getfield 92, 3) := by decide +kernel
theorem dX9_doLeap_73 : decode cX9_doLeap 73 = .ok (.ifCond .eq 7, 3) := by decide +kernel
theorem dX9_doLeap_76 : decode cX9_doLeap 76 = .ok (.iconst 1, 1) := by decide +kernel
theorem dX9_doLeap_77 : decode cX9_doLeap 77 = .ok (.goto 4, 3) := by decide +kernel
theorem dX9_doLeap_80 : decode cX9_doLeap 80 = .ok (.iconst 0, 1) := by decide +kernel
theorem dX9_doLeap_81 : decode cX9_doLeap 81 = .ok (.iadd, 1) := by decide +kernel
theorem dX9_doLeap_82 : decode cX9_doLeap 82 = .ok (.iastore, 1) := by decide +kernel
theorem dX9_doLeap_83 : decode cX9_doLeap 83 = .ok (.bipush 100, 2) := by decide +kernel
theorem dX9_doLeap_85 : decode cX9_doLeap 85 = .ok (.aload_n 0, 1) := by decide +kernel
theorem dX9_doLeap_86 : decode cX9_doLeap 86 = .ok (.getfield 79, 3) := by decide +kernel
theorem dX9_doLeap_89 : decode cX9_doLeap 89 = .ok (.imul, 1) := by decide +kernel
theorem dX9_doLeap_90 : decode cX9_doLeap 90 = .ok (.aload_n 0, 1) := by decide +kernel
theorem dX9_doLeap_91 : decode cX9_doLeap 91 = .ok (.getfield 76, 3) := by decide +kernel
theorem dX9_doLeap_94 : decode cX9_doLeap 94 = .ok (.iadd, 1) := by decide +kernel
theorem dX9_doLeap_95 : decode cX9_doLeap 95 = .ok (.ireturn, 1) := by decide +kernel
set_option maxRecDepth 20000 in
theorem ggX9_build_X9_isCell : GoodIn wsX9_build wsX9_isCell := goodIn_r _ [4, 5, 6, 3, 7] (by decide +kernel) (by decide +kernel)
set_option maxRecDepth 20000 in
theorem gX9_build_X9_isCell : GoodIn wsX9_build (va_wsS RX9 52 yX9_isCell wsX9_isCell) := goodIn_app (goodIn_of _ (by decide +kernel)) ggX9_build_X9_isCell
set_option maxRecDepth 20000 in
theorem ggX9_build_X9_holds : GoodIn wsX9_build wsX9_holds := goodIn_r _ [11, 12, 39, 40, 41, 42, 43, 44, 45, 46, 47, 48, 49, 50, 51, 52, 53, 54, 55, 56, 57, 58, 59, 60, 61, 62, 63, 64] (by decide +kernel) (by decide +kernel)
set_option maxRecDepth 20000 in
theorem gX9_build_X9_holds : GoodIn wsX9_build (wsV RX9 125 RX9 yX9_holds wsX9_holds) := goodIn_app (goodIn_of _ (by decide +kernel)) ggX9_build_X9_holds
set_option maxRecDepth 20000 in
theorem ggX9_build_X9_save : GoodIn wsX9_build wsX9_save := goodIn_r _ [16, 17, 18, 19, 20, 21, 3, 22, 39, 40, 41, 42, 43, 44, 45, 46, 47, 48, 49, 50, 51, 52, 53, 54, 55, 56, 57, 58, 59, 60, 61, 62, 63, 64] (by decide +kernel) (by decide +kernel)
set_option maxRecDepth 20000 in
theorem gX9_build_X9_save : GoodIn wsX9_build (wsV RX9 128 RX9 yX9_save wsX9_save) := goodIn_app (goodIn_of _ (by decide +kernel)) ggX9_build_X9_save
set_option maxRecDepth 20000 in
theorem ggX9_build_X9_doBuild : GoodIn wsX9_build wsX9_doBuild := goodIn_r _ [26, 19, 27, 28, 29, 3, 30, 31, 32, 33, 34, 35, 36, 37, 38, 1, 2, 4, 5, 6, 7, 39, 40, 41, 42, 43, 44, 45, 46, 47, 48, 49, 50, 51, 52, 53, 54, 55, 56, 57, 58, 59, 60, 61, 62, 63, 64] (by decide +kernel) (by decide +kernel)
set_option maxRecDepth 20000 in
theorem gX9_build_X9_doBuild : GoodIn wsX9_build (wsV RX9 131 RX9 yX9_doBuild wsX9_doBuild) := goodIn_app (goodIn_of _ (by decide +kernel)) ggX9_build_X9_doBuild
theorem dX9_build_0 : decode cX9_build 0 = .ok (.aload_n 0, 1) := by decide +kernel
theorem dX9_build_1 : decode cX9_build 1 = .ok (.iload_n 1, 1) := by decide +kernel
theorem dX9_build_2 : decode cX9_build 2 = .ok (.iload_n 2, 1) := by decide +kernel
theorem dX9_build_3 : decode cX9_build 3 = .ok (.invokestatic 52, 3) := by decide +kernel
theorem dX9_build_6 : decode cX9_build 6 = .ok (.ifCond .eq 7, 3) := by decide +kernel
theorem dX9_build_9 : decode cX9_build 9 = .ok (.iconst 0, 1) := by decide +kernel
theorem dX9_build_10 : decode cX9_build 10 = .ok (.goto 4, 3) := by decide +kernel
theorem dX9_build_13 : decode cX9_build 13 = .ok (.iconst 1, 1) := by decide +kernel
theorem dX9_build_14 : decode cX9_build 14 = .ok (.invokevirtual 125, 3) := by decide +kernel
theorem dX9_build_17 : decode cX9_build 17 = .ok (.ifCond .ne 5, 3) := by decide +kernel
theorem dX9_build_20 : decode cX9_build 20 = .ok (.iconst 0, 1) := by decide +kernel
theorem dX9_build_21 : decode cX9_build 21 = .ok (.ireturn, 1) := by decide +kernel
theorem dX9_build_22 : decode cX9_build 22 = .ok (.aload_n 0, 1) := by decide +kernel
theorem dX9_build_23 : decode cX9_build 23 = .ok (.invokevirtual 128, 3) := by decide +kernel
theorem dX9_build_26 : decode cX9_build 26 = .ok (.aload_n 0, 1) := by decide +kernel
theorem dX9_build_27 : decode cX9_build 27 = .ok (.iload_n 1, 1) := by decide +kernel
theorem dX9_build_28 : decode cX9_build 28 = .ok (.iload_n 2, 1) := by decide +kernel
theorem dX9_build_29 : decode cX9_build 29 = .ok (.invokevirtual 131, 3) := by decide +kernel
theorem dX9_build_32 : decode cX9_build 32 = .ok (.ireturn, 1) := by decide +kernel
set_option maxRecDepth 20000 in
theorem ggX9_set_X9_in : GoodIn wsX9_set wsX9_in := goodIn_r _ [5] (by decide +kernel) (by decide +kernel)
set_option maxRecDepth 20000 in
theorem gX9_set_X9_in : GoodIn wsX9_set (va_wsS RX9 48 yX9_in wsX9_in) := goodIn_app (goodIn_of _ (by decide +kernel)) ggX9_set_X9_in
set_option maxRecDepth 20000 in
theorem ggX9_set_X9_holds : GoodIn wsX9_set wsX9_holds := goodIn_r _ [9, 10, 20, 21, 22, 23, 24, 25, 26, 27, 28, 29, 30, 31, 32, 33, 34, 35, 36, 37, 38, 39, 40, 41, 42, 43, 44, 45] (by decide +kernel) (by decide +kernel)
set_option maxRecDepth 20000 in
theorem gX9_set_X9_holds : GoodIn wsX9_set (wsV RX9 125 RX9 yX9_holds wsX9_holds) := goodIn_app (goodIn_of _ (by decide +kernel)) ggX9_set_X9_holds
set_option maxRecDepth 20000 in
theorem ggX9_set_X9_save : GoodIn wsX9_set wsX9_save := goodIn_r _ [14, 15, 16, 1, 17, 18, 4, 19, 20, 21, 22, 23, 24, 25, 26, 27, 28, 29, 30, 31, 32, 33, 34, 35, 36, 37, 38, 39, 40, 41, 42, 43, 44, 45] (by decide +kernel) (by decide +kernel)
set_option maxRecDepth 20000 in
theorem gX9_set_X9_save : GoodIn wsX9_set (wsV RX9 128 RX9 yX9_save wsX9_save) := goodIn_app (goodIn_of _ (by decide +kernel)) ggX9_set_X9_save
theorem dX9_set_0 : decode cX9_set 0 = .ok (.aload_n 0, 1) := by decide +kernel
theorem dX9_set_1 : decode cX9_set 1 = .ok (.iload_n 1, 1) := by decide +kernel
theorem dX9_set_2 : decode cX9_set 2 = .ok (.iconst 0, 1) := by decide +kernel
theorem dX9_set_3 : decode cX9_set 3 = .ok (.iconst 2, 1) := by decide +kernel
theorem dX9_set_4 : decode cX9_set 4 = .ok (.invokestatic 48, 3) := by decide +kernel
theorem dX9_set_7 : decode cX9_set 7 = .ok (.ifCond .ne 7, 3) := by decide +kernel
theorem dX9_set_10 : decode cX9_set 10 = .ok (.iconst 1, 1) := by decide +kernel
theorem dX9_set_11 : decode cX9_set 11 = .ok (.goto 25, 3) := by decide +kernel
theorem dX9_set_14 : decode cX9_set 14 = .ok (.iload_n 2, 1) := by decide +kernel
theorem dX9_set_15 : decode cX9_set 15 = .ok (.iconst 1, 1) := by decide +kernel
theorem dX9_set_16 : decode cX9_set 16 = .ok (.iload_n 1, 1) := by decide +kernel
theorem dX9_set_17 : decode cX9_set 17 = .ok (.ifCond .ne 7, 3) := by decide +kernel
theorem dX9_set_20 : decode cX9_set 20 = .ok (.iconst 4, 1) := by decide +kernel
theorem dX9_set_21 : decode cX9_set 21 = .ok (.goto 4, 3) := by decide +kernel
theorem dX9_set_24 : decode cX9_set 24 = .ok (.iconst 5, 1) := by decide +kernel
theorem dX9_set_25 : decode cX9_set 25 = .ok (.invokestatic 48, 3) := by decide +kernel
theorem dX9_set_28 : decode cX9_set 28 = .ok (.ifCond .ne 7, 3) := by decide +kernel
theorem dX9_set_31 : decode cX9_set 31 = .ok (.iconst 2, 1) := by decide +kernel
theorem dX9_set_32 : decode cX9_set 32 = .ok (.goto 4, 3) := by decide +kernel
theorem dX9_set_35 : decode cX9_set 35 = .ok (.iconst 0, 1) := by decide +kernel
theorem dX9_set_36 : decode cX9_set 36 = .ok (.invokevirtual 125, 3) := by decide +kernel
theorem dX9_set_39 : decode cX9_set 39 = .ok (.ifCond .ne 5, 3) := by decide +kernel
theorem dX9_set_42 : decode cX9_set 42 = .ok (.iconst 0, 1) := by decide +kernel
theorem dX9_set_43 : decode cX9_set 43 = .ok (.ireturn, 1) := by decide +kernel
theorem dX9_set_44 : decode cX9_set 44 = .ok (.aload_n 0, 1) := by decide +kernel
theorem dX9_set_45 : decode cX9_set 45 = .ok (.invokevirtual 128, 3) := by decide +kernel
theorem dX9_set_48 : decode cX9_set 48 = .ok (.aload_n 0, 1) := by decide +kernel
theorem dX9_set_49 : decode cX9_set 49 = .ok (.getfield 7, 3) := by decide +kernel
theorem dX9_set_52 : decode cX9_set 52 = .ok (.bipush 20, 2) := by decide +kernel
theorem dX9_set_54 : decode cX9_set 54 = .ok (.iload_n 1, 1) := by decide +kernel
theorem dX9_set_55 : decode cX9_set 55 = .ok (.iadd, 1) := by decide +kernel
theorem dX9_set_56 : decode cX9_set 56 = .ok (.iaload, 1) := by decide +kernel
theorem dX9_set_57 : decode cX9_set 57 = .ok (.istore_n 3, 1) := by decide +kernel
theorem dX9_set_58 : decode cX9_set 58 = .ok (.aload_n 0, 1) := by decide +kernel
theorem dX9_set_59 : decode cX9_set 59 = .ok (.getfield 7, 3) := by decide +kernel
theorem dX9_set_62 : decode cX9_set 62 = .ok (.bipush 20, 2) := by decide +kernel
theorem dX9_set_64 : decode cX9_set 64 = .ok (.iload_n 1, 1) := by decide +kernel
theorem dX9_set_65 : decode cX9_set 65 = .ok (.iadd, 1) := by decide +kernel
theorem dX9_set_66 : decode cX9_set 66 = .ok (.iload_n 2, 1) := by decide +kernel
theorem dX9_set_67 : decode cX9_set 67 = .ok (.iastore, 1) := by decide +kernel
theorem dX9_set_68 : decode cX9_set 68 = .ok (.iload_n 3, 1) := by decide +kernel
theorem dX9_set_69 : decode cX9_set 69 = .ok (.ireturn, 1) := by decide +kernel
set_option maxRecDepth 20000 in
theorem ggX9_walk_X9_isSide : GoodIn wsX9_walk wsX9_isSide := goodIn_r _ [4] (by decide +kernel) (by decide +kernel)
set_option maxRecDepth 20000 in
theorem gX9_walk_X9_isSide : GoodIn wsX9_walk (va_wsS RX9 134 yX9_isSide wsX9_isSide) := goodIn_app (goodIn_of _ (by decide +kernel)) ggX9_walk_X9_isSide
set_option maxRecDepth 20000 in
theorem ggX9_walk_X9_holds : GoodIn wsX9_walk wsX9_holds := goodIn_r _ [8, 9, 42, 43, 44, 45, 46, 47, 48, 49, 50, 51, 52, 53, 54, 55, 56, 57, 58, 59, 60, 61, 62, 63, 64, 65, 66, 67] (by decide +kernel) (by decide +kernel)
set_option maxRecDepth 20000 in
theorem gX9_walk_X9_holds : GoodIn wsX9_walk (wsV RX9 125 RX9 yX9_holds wsX9_holds) := goodIn_app (goodIn_of _ (by decide +kernel)) ggX9_walk_X9_holds
set_option maxRecDepth 20000 in
theorem ggX9_walk_X9_save : GoodIn wsX9_walk wsX9_save := goodIn_r _ [13, 14, 15, 16, 17, 18, 3, 19, 42, 43, 44, 45, 46, 47, 48, 49, 50, 51, 52, 53, 54, 55, 56, 57, 58, 59, 60, 61, 62, 63, 64, 65, 66, 67] (by decide +kernel) (by decide +kernel)
set_option maxRecDepth 20000 in
theorem gX9_walk_X9_save : GoodIn wsX9_walk (wsV RX9 128 RX9 yX9_save wsX9_save) := goodIn_app (goodIn_of _ (by decide +kernel)) ggX9_walk_X9_save
set_option maxRecDepth 20000 in
theorem ggX9_walk_X9_doWalk : GoodIn wsX9_walk wsX9_doWalk := goodIn_r _ [23, 16, 24, 25, 26, 3, 27, 28, 29, 30, 31, 32, 33, 34, 35, 36, 37, 38, 39, 40, 41, 42, 43, 44, 45, 46, 47, 48, 49, 50, 51, 52, 53, 54, 55, 56, 57, 58, 59, 60, 61, 62, 63, 64, 65, 66, 67] (by decide +kernel) (by decide +kernel)
set_option maxRecDepth 20000 in
theorem gX9_walk_X9_doWalk : GoodIn wsX9_walk (wsV RX9 137 RX9 yX9_doWalk wsX9_doWalk) := goodIn_app (goodIn_of _ (by decide +kernel)) ggX9_walk_X9_doWalk
theorem dX9_walk_0 : decode cX9_walk 0 = .ok (.aload_n 0, 1) := by decide +kernel
theorem dX9_walk_1 : decode cX9_walk 1 = .ok (.iload_n 1, 1) := by decide +kernel
theorem dX9_walk_2 : decode cX9_walk 2 = .ok (.invokestatic 134, 3) := by decide +kernel
theorem dX9_walk_5 : decode cX9_walk 5 = .ok (.ifCond .eq 7, 3) := by decide +kernel
theorem dX9_walk_8 : decode cX9_walk 8 = .ok (.iconst 0, 1) := by decide +kernel
theorem dX9_walk_9 : decode cX9_walk 9 = .ok (.goto 4, 3) := by decide +kernel
theorem dX9_walk_12 : decode cX9_walk 12 = .ok (.iconst 1, 1) := by decide +kernel
theorem dX9_walk_13 : decode cX9_walk 13 = .ok (.invokevirtual 125, 3) := by decide +kernel
theorem dX9_walk_16 : decode cX9_walk 16 = .ok (.ifCond .ne 5, 3) := by decide +kernel
theorem dX9_walk_19 : decode cX9_walk 19 = .ok (.iconst 0, 1) := by decide +kernel
theorem dX9_walk_20 : decode cX9_walk 20 = .ok (.ireturn, 1) := by decide +kernel
theorem dX9_walk_21 : decode cX9_walk 21 = .ok (.aload_n 0, 1) := by decide +kernel
theorem dX9_walk_22 : decode cX9_walk 22 = .ok (.invokevirtual 128, 3) := by decide +kernel
theorem dX9_walk_25 : decode cX9_walk 25 = .ok (.aload_n 0, 1) := by decide +kernel
theorem dX9_walk_26 : decode cX9_walk 26 = .ok (.iload_n 1, 1) := by decide +kernel
theorem dX9_walk_27 : decode cX9_walk 27 = .ok (.invokevirtual 137, 3) := by decide +kernel
theorem dX9_walk_30 : decode cX9_walk 30 = .ok (.ireturn, 1) := by decide +kernel
set_option maxRecDepth 20000 in
theorem ggX9_leap_X9_isSide : GoodIn wsX9_leap wsX9_isSide := goodIn_r _ [4] (by decide +kernel) (by decide +kernel)
set_option maxRecDepth 20000 in
theorem gX9_leap_X9_isSide : GoodIn wsX9_leap (va_wsS RX9 134 yX9_isSide wsX9_isSide) := goodIn_app (goodIn_of _ (by decide +kernel)) ggX9_leap_X9_isSide
set_option maxRecDepth 20000 in
theorem ggX9_leap_X9_in : GoodIn wsX9_leap wsX9_in := goodIn_r _ [7] (by decide +kernel) (by decide +kernel)
set_option maxRecDepth 20000 in
theorem gX9_leap_X9_in : GoodIn wsX9_leap (va_wsS RX9 48 yX9_in wsX9_in) := goodIn_app (goodIn_of _ (by decide +kernel)) ggX9_leap_X9_in
set_option maxRecDepth 20000 in
theorem ggX9_leap_X9_holds : GoodIn wsX9_leap wsX9_holds := goodIn_r _ [11, 12, 63, 64, 65, 66, 67, 68, 69, 70, 71, 72, 73, 74, 75, 76, 77, 78, 79, 80, 81, 82, 83, 84, 85, 86, 87, 88] (by decide +kernel) (by decide +kernel)
set_option maxRecDepth 20000 in
theorem gX9_leap_X9_holds : GoodIn wsX9_leap (wsV RX9 125 RX9 yX9_holds wsX9_holds) := goodIn_app (goodIn_of _ (by decide +kernel)) ggX9_leap_X9_holds
set_option maxRecDepth 20000 in
theorem ggX9_leap_X9_save : GoodIn wsX9_leap wsX9_save := goodIn_r _ [16, 17, 18, 19, 20, 21, 3, 22, 63, 64, 65, 66, 67, 68, 69, 70, 71, 72, 73, 74, 75, 76, 77, 78, 79, 80, 81, 82, 83, 84, 85, 86, 87, 88] (by decide +kernel) (by decide +kernel)
set_option maxRecDepth 20000 in
theorem gX9_leap_X9_save : GoodIn wsX9_leap (wsV RX9 128 RX9 yX9_save wsX9_save) := goodIn_app (goodIn_of _ (by decide +kernel)) ggX9_leap_X9_save
set_option maxRecDepth 20000 in
theorem ggX9_leap_X9_doLeap : GoodIn wsX9_leap wsX9_doLeap := goodIn_r _ [26, 19, 27, 28, 29, 30, 31, 32, 3, 33, 34, 35, 36, 37, 38, 39, 40, 41, 42, 43, 44, 45, 46, 47, 48, 49, 50, 5, 6, 7, 51, 52, 53, 54, 55, 56, 57, 58, 59, 60, 61, 62, 63, 64, 65, 66, 67, 68, 69, 70, 71, 72, 73, 74, 75, 76, 77, 78, 79, 80, 81, 82, 83, 84, 85, 86, 87, 88] (by decide +kernel) (by decide +kernel)
set_option maxRecDepth 20000 in
theorem gX9_leap_X9_doLeap : GoodIn wsX9_leap (wsV RX9 140 RX9 yX9_doLeap wsX9_doLeap) := goodIn_app (goodIn_of _ (by decide +kernel)) ggX9_leap_X9_doLeap
theorem dX9_leap_0 : decode cX9_leap 0 = .ok (.aload_n 0, 1) := by decide +kernel
theorem dX9_leap_1 : decode cX9_leap 1 = .ok (.iload_n 1, 1) := by decide +kernel
theorem dX9_leap_2 : decode cX9_leap 2 = .ok (.invokestatic 134, 3) := by decide +kernel
theorem dX9_leap_5 : decode cX9_leap 5 = .ok (.ifCond .eq 16, 3) := by decide +kernel
theorem dX9_leap_8 : decode cX9_leap 8 = .ok (.iload_n 2, 1) := by decide +kernel
theorem dX9_leap_9 : decode cX9_leap 9 = .ok (.iconst 0, 1) := by decide +kernel
theorem dX9_leap_10 : decode cX9_leap 10 = .ok (.iconst 3, 1) := by decide +kernel
theorem dX9_leap_11 : decode cX9_leap 11 = .ok (.invokestatic 48, 3) := by decide +kernel
theorem dX9_leap_14 : decode cX9_leap 14 = .ok (.ifCond .eq 7, 3) := by decide +kernel
theorem dX9_leap_17 : decode cX9_leap 17 = .ok (.iconst 0, 1) := by decide +kernel
theorem dX9_leap_18 : decode cX9_leap 18 = .ok (.goto 4, 3) := by decide +kernel
theorem dX9_leap_21 : decode cX9_leap 21 = .ok (.iconst 1, 1) := by decide +kernel
theorem dX9_leap_22 : decode cX9_leap 22 = .ok (.invokevirtual 125, 3) := by decide +kernel
theorem dX9_leap_25 : decode cX9_leap 25 = .ok (.ifCond .ne 5, 3) := by decide +kernel
theorem dX9_leap_28 : decode cX9_leap 28 = .ok (.iconst 0, 1) := by decide +kernel
theorem dX9_leap_29 : decode cX9_leap 29 = .ok (.ireturn, 1) := by decide +kernel
theorem dX9_leap_30 : decode cX9_leap 30 = .ok (.aload_n 0, 1) := by decide +kernel
theorem dX9_leap_31 : decode cX9_leap 31 = .ok (.invokevirtual 128, 3) := by decide +kernel
theorem dX9_leap_34 : decode cX9_leap 34 = .ok (.aload_n 0, 1) := by decide +kernel
theorem dX9_leap_35 : decode cX9_leap 35 = .ok (.iload_n 1, 1) := by decide +kernel
theorem dX9_leap_36 : decode cX9_leap 36 = .ok (.iload_n 2, 1) := by decide +kernel
theorem dX9_leap_37 : decode cX9_leap 37 = .ok (.invokevirtual 140, 3) := by decide +kernel
theorem dX9_leap_40 : decode cX9_leap 40 = .ok (.ireturn, 1) := by decide +kernel
set_option maxRecDepth 20000 in
theorem ggX9_put_X9_isCell : GoodIn wsX9_put wsX9_isCell := goodIn_r _ [5, 6, 7, 4, 8] (by decide +kernel) (by decide +kernel)
set_option maxRecDepth 20000 in
theorem gX9_put_X9_isCell : GoodIn wsX9_put (va_wsS RX9 52 yX9_isCell wsX9_isCell) := goodIn_app (goodIn_of _ (by decide +kernel)) ggX9_put_X9_isCell
set_option maxRecDepth 20000 in
theorem ggX9_put_X9_holds : GoodIn wsX9_put wsX9_holds := goodIn_r _ [12, 13, 47, 48, 49, 50, 51, 52, 53, 54, 55, 56, 57, 58, 59, 60, 61, 62, 63, 64, 65, 66, 67, 68, 69, 70, 71, 72] (by decide +kernel) (by decide +kernel)
set_option maxRecDepth 20000 in
theorem gX9_put_X9_holds : GoodIn wsX9_put (wsV RX9 125 RX9 yX9_holds wsX9_holds) := goodIn_app (goodIn_of _ (by decide +kernel)) ggX9_put_X9_holds
set_option maxRecDepth 20000 in
theorem ggX9_put_X9_save : GoodIn wsX9_put wsX9_save := goodIn_r _ [17, 18, 19, 1, 20, 21, 4, 22, 47, 48, 49, 50, 51, 52, 53, 54, 55, 56, 57, 58, 59, 60, 61, 62, 63, 64, 65, 66, 67, 68, 69, 70, 71, 72] (by decide +kernel) (by decide +kernel)
set_option maxRecDepth 20000 in
theorem gX9_put_X9_save : GoodIn wsX9_put (wsV RX9 128 RX9 yX9_save wsX9_save) := goodIn_app (goodIn_of _ (by decide +kernel)) ggX9_put_X9_save
set_option maxRecDepth 20000 in
theorem ggX9_put_X9_canStand : GoodIn wsX9_put wsX9_canStand := goodIn_r _ [26, 27, 28, 29, 4, 30, 1, 2, 3, 5, 6, 7, 8, 47, 48, 49, 50, 51, 52, 53, 54, 55, 56, 57, 58, 59, 60, 61, 62, 63, 64, 65, 66, 67, 68, 69, 70, 71, 72] (by decide +kernel) (by decide +kernel)
set_option maxRecDepth 20000 in
theorem gX9_put_X9_canStand : GoodIn wsX9_put (wsV RX9 69 RX9 yX9_canStand wsX9_canStand) := goodIn_app (goodIn_of _ (by decide +kernel)) ggX9_put_X9_canStand
set_option maxRecDepth 20000 in
theorem ggX9_put_X9_refuse : GoodIn wsX9_put wsX9_refuse := goodIn_r _ [34, 1, 47, 48, 49, 50, 51, 52, 53, 54, 55, 56, 57, 58, 59, 60, 61, 62, 63, 64, 65, 66, 67, 68, 69, 70, 71, 72] (by decide +kernel) (by decide +kernel)
set_option maxRecDepth 20000 in
theorem gX9_put_X9_refuse : GoodIn wsX9_put (wsV RX9 122 RX9 yX9_refuse wsX9_refuse) := goodIn_app (goodIn_of _ (by decide +kernel)) ggX9_put_X9_refuse
set_option maxRecDepth 20000 in
theorem ggX9_put_X9_findLedges : GoodIn wsX9_put wsX9_findLedges := goodIn_r _ [38, 39, 40, 41, 42, 23, 24, 25, 4, 26, 27, 28, 29, 30, 1, 2, 3, 5, 6, 7, 8, 47, 48, 49, 50, 51, 52, 53, 54, 55, 56, 57, 58, 59, 60, 61, 62, 63, 64, 65, 66, 67, 68, 69, 70, 71, 72] (by decide +kernel) (by decide +kernel)
set_option maxRecDepth 20000 in
theorem gX9_put_X9_findLedges : GoodIn wsX9_put (wsV RX9 104 RX9 yX9_findLedges wsX9_findLedges) := goodIn_app (goodIn_of _ (by decide +kernel)) ggX9_put_X9_findLedges
set_option maxRecDepth 20000 in
theorem ggX9_put_X9_ledgeAt : GoodIn wsX9_put wsX9_ledgeAt := goodIn_r _ [46, 40, 47, 48, 49, 50, 51, 52, 53, 54, 55, 56, 57, 58, 59, 60, 61, 62, 63, 64, 65, 66, 67, 68, 69, 70, 71, 72] (by decide +kernel) (by decide +kernel)
set_option maxRecDepth 20000 in
theorem gX9_put_X9_ledgeAt : GoodIn wsX9_put (wsV RX9 72 RX9 yX9_ledgeAt wsX9_ledgeAt) := goodIn_app (goodIn_of _ (by decide +kernel)) ggX9_put_X9_ledgeAt
theorem dX9_put_0 : decode cX9_put 0 = .ok (.aload_n 0, 1) := by decide +kernel
theorem dX9_put_1 : decode cX9_put 1 = .ok (.iload_n 1, 1) := by decide +kernel
theorem dX9_put_2 : decode cX9_put 2 = .ok (.iload_n 2, 1) := by decide +kernel
theorem dX9_put_3 : decode cX9_put 3 = .ok (.invokestatic 52, 3) := by decide +kernel
theorem dX9_put_6 : decode cX9_put 6 = .ok (.ifCond .eq 7, 3) := by decide +kernel
theorem dX9_put_9 : decode cX9_put 9 = .ok (.iconst 0, 1) := by decide +kernel
theorem dX9_put_10 : decode cX9_put 10 = .ok (.goto 4, 3) := by decide +kernel
theorem dX9_put_13 : decode cX9_put 13 = .ok (.iconst 1, 1) := by decide +kernel
theorem dX9_put_14 : decode cX9_put 14 = .ok (.invokevirtual 125, 3) := by decide +kernel
theorem dX9_put_17 : decode cX9_put 17 = .ok (.ifCond .ne 5, 3) := by decide +kernel
theorem dX9_put_20 : decode cX9_put 20 = .ok (.iconst 0, 1) := by decide +kernel
theorem dX9_put_21 : decode cX9_put 21 = .ok (.ireturn, 1) := by decide +kernel
theorem dX9_put_22 : decode cX9_put 22 = .ok (.aload_n 0, 1) := by decide +kernel
theorem dX9_put_23 : decode cX9_put 23 = .ok (.invokevirtual 128, 3) := by decide +kernel
theorem dX9_put_26 : decode cX9_put 26 = .ok (.aload_n 0, 1) := by decide +kernel
theorem dX9_put_27 : decode cX9_put 27 = .ok (.iload_n 1, 1) := by decide +kernel
theorem dX9_put_28 : decode cX9_put 28 = .ok (.iload_n 2, 1) := by decide +kernel
theorem dX9_put_29 : decode cX9_put 29 = .ok (.invokevirtual 69, 3) := by decide +kernel
theorem dX9_put_32 : decode cX9_put 32 = .ok (.ifCond .ne 8, 3) := by decide +kernel
theorem dX9_put_35 : decode cX9_put 35 = .ok (.aload_n 0, 1) := by decide +kernel
theorem dX9_put_36 : decode cX9_put 36 = .ok (.invokevirtual 122, 3) := by decide +kernel
theorem dX9_put_39 : decode cX9_put 39 = .ok (.ireturn, 1) := by decide +kernel
theorem dX9_put_40 : decode cX9_put 40 = .ok (.aload_n 0, 1) := by decide +kernel
theorem dX9_put_41 : decode cX9_put 41 = .ok (.getfield 7, 3) := by decide +kernel
theorem dX9_put_44 : decode cX9_put 44 = .ok (.bipush 23, 2) := by decide +kernel
theorem dX9_put_46 : decode cX9_put 46 = .ok (.iload_n 1, 1) := by decide +kernel
theorem dX9_put_47 : decode cX9_put 47 = .ok (.iastore, 1) := by decide +kernel
theorem dX9_put_48 : decode cX9_put 48 = .ok (.aload_n 0, 1) := by decide +kernel
theorem dX9_put_49 : decode cX9_put 49 = .ok (.getfield 7, 3) := by decide +kernel
theorem dX9_put_52 : decode cX9_put 52 = .ok (.bipush 24, 2) := by decide +kernel
theorem dX9_put_54 : decode cX9_put 54 = .ok (.iload_n 2, 1) := by decide +kernel
theorem dX9_put_55 : decode cX9_put 55 = .ok (.iastore, 1) := by decide +kernel
theorem dX9_put_56 : decode cX9_put 56 = .ok (.aload_n 0, 1) := by decide +kernel
theorem dX9_put_57 : decode cX9_put 57 = .ok (.invokevirtual 104, 3) := by decide +kernel
theorem dX9_put_60 : decode cX9_put 60 = .ok (.aload_n 0, 1) := by decide +kernel
theorem dX9_put_61 : decode cX9_put 61 = .ok (.iload_n 1, 1) := by decide +kernel
theorem dX9_put_62 : decode cX9_put 62 = .ok (.iload_n 2, 1) := by decide +kernel
theorem dX9_put_63 : decode cX9_put 63 = .ok (.invokevirtual 72, 3) := by decide +kernel
theorem dX9_put_66 : decode cX9_put 66 = .ok (.ireturn, 1) := by decide +kernel
set_option maxRecDepth 20000 in
theorem ggX9_append_X9_in : GoodIn wsX9_append wsX9_in := goodIn_r _ [6] (by decide +kernel) (by decide +kernel)
set_option maxRecDepth 20000 in
theorem gX9_append_X9_in : GoodIn wsX9_append (va_wsS RX9 48 yX9_in wsX9_in) := goodIn_app (goodIn_of _ (by decide +kernel)) ggX9_append_X9_in
set_option maxRecDepth 20000 in
theorem ggX9_append_X9_holds : GoodIn wsX9_append wsX9_holds := goodIn_r _ [10, 11, 12, 13, 14, 15, 16, 17, 18, 19, 20, 21, 22, 23, 24, 25, 26, 27, 28, 29, 30, 31, 32, 33, 34, 35, 36, 37] (by decide +kernel) (by decide +kernel)
set_option maxRecDepth 20000 in
theorem gX9_append_X9_holds : GoodIn wsX9_append (wsV RX9 125 RX9 yX9_holds wsX9_holds) := goodIn_app (goodIn_of _ (by decide +kernel)) ggX9_append_X9_holds
theorem dX9_append_0 : decode cX9_append 0 = .ok (.aload_n 0, 1) := by decide +kernel
theorem dX9_append_1 : decode cX9_append 1 = .ok (.iload_n 1, 1) := by decide +kernel
theorem dX9_append_2 : decode cX9_append 2 = .ok (.bipush 33, 2) := by decide +kernel
theorem dX9_append_4 : decode cX9_append 4 = .ok (.bipush 126, 2) := by decide +kernel
theorem dX9_append_6 : decode cX9_append 6 = .ok (.invokestatic 48, 3) := by decide +kernel
theorem dX9_append_9 : decode cX9_append 9 = .ok (.ifCond .ne 7, 3) := by decide +kernel
theorem dX9_append_12 : decode cX9_append 12 = .ok (.iconst 1, 1) := by decide +kernel
theorem dX9_append_13 : decode cX9_append 13 = .ok (.goto 17, 3) := by decide +kernel
theorem dX9_append_16 : decode cX9_append 16 = .ok (.aload_n 0, 1) := by decide +kernel
theorem dX9_append_17 : decode cX9_append 17 = .ok (.getfield 143, 3) := by decide +kernel
theorem dX9_append_20 : decode cX9_append 20 = .ok (.bipush 60, 2) := by decide +kernel
theorem dX9_append_22 : decode cX9_append 22 = .ok (.if_icmp .ne 7, 3) := by decide +kernel
theorem dX9_append_25 : decode cX9_append 25 = .ok (.iconst 2, 1) := by decide +kernel
theorem dX9_append_26 : decode cX9_append 26 = .ok (.goto 4, 3) := by decide +kernel
theorem dX9_append_29 : decode cX9_append 29 = .ok (.iconst 0, 1) := by decide +kernel
theorem dX9_append_30 : decode cX9_append 30 = .ok (.invokevirtual 125, 3) := by decide +kernel
theorem dX9_append_33 : decode cX9_append 33 = .ok (.ifCond .ne 5, 3) := by decide +kernel
theorem dX9_append_36 : decode cX9_append 36 = .ok (.iconst 0, 1) := by decide +kernel
theorem dX9_append_37 : decode cX9_append 37 = .ok (.ireturn, 1) := by decide +kernel
theorem dX9_append_38 : decode cX9_append 38 = .ok (.aload_n 0, 1) := by decide +kernel
theorem dX9_append_39 : decode cX9_append 39 = .ok (.getfield 23, 3) := by decide +kernel
theorem dX9_append_42 : decode cX9_append 42 = .ok (.aload_n 0, 1) := by decide +kernel
theorem dX9_append_43 : decode cX9_append 43 = .ok (.getfield 143, 3) := by decide +kernel
theorem dX9_append_46 : decode cX9_append 46 = .ok (.iload_n 1, 1) := by decide +kernel
theorem dX9_append_47 : decode cX9_append 47 = .ok (.iastore, 1) := by decide +kernel
theorem dX9_append_48 : decode cX9_append 48 = .ok (.aload_n 0, 1) := by decide +kernel
theorem dX9_append_49 : decode cX9_append 49 = .ok (.dup, 1) := by decide +kernel
theorem dX9_append_50 : decode cX9_append 50 = .ok (.getfield 143, 3) := by decide +kernel
theorem dX9_append_53 : decode cX9_append 53 = .ok (.iconst 1, 1) := by decide +kernel
theorem dX9_append_54 : decode cX9_append 54 = .ok (.iadd, 1) := by decide +kernel
theorem dX9_append_55 : decode cX9_append 55 = .ok (.putfield 143, 3) := by decide +kernel
theorem dX9_append_58 : decode cX9_append 58 = .ok (.aload_n 0, 1) := by decide +kernel
theorem dX9_append_59 : decode cX9_append 59 = .ok (.getfield 143, 3) := by decide +kernel
theorem dX9_append_62 : decode cX9_append 62 = .ok (.ireturn, 1) := by decide +kernel
theorem dX9_clearBuffer_0 : decode cX9_clearBuffer 0 = .ok (.aload_n 0, 1) := by decide +kernel
theorem dX9_clearBuffer_1 : decode cX9_clearBuffer 1 = .ok (.iconst 0, 1) := by decide +kernel
theorem dX9_clearBuffer_2 : decode cX9_clearBuffer 2 = .ok (.putfield 44, 3) := by decide +kernel
theorem dX9_clearBuffer_5 : decode cX9_clearBuffer 5 = .ok (.aload_n 0, 1) := by decide +kernel
theorem dX9_clearBuffer_6 : decode cX9_clearBuffer 6 = .ok (.getfield 143, 3) := by decide +kernel
theorem dX9_clearBuffer_9 : decode cX9_clearBuffer 9 = .ok (.istore_n 1, 1) := by decide +kernel
theorem dX9_clearBuffer_10 : decode cX9_clearBuffer 10 = .ok (.aload_n 0, 1) := by decide +kernel
theorem dX9_clearBuffer_11 : decode cX9_clearBuffer 11 = .ok (.iconst 0, 1) := by decide +kernel
theorem dX9_clearBuffer_12 : decode cX9_clearBuffer 12 = .ok (.putfield 143, 3) := by decide +kernel
theorem dX9_clearBuffer_15 : decode cX9_clearBuffer 15 = .ok (.iload_n 1, 1) := by decide +kernel
theorem dX9_clearBuffer_16 : decode cX9_clearBuffer 16 = .ok (.ireturn, 1) := by decide +kernel
set_option maxRecDepth 20000 in
theorem ggX9_isNext_X9_in : GoodIn wsX9_isNext wsX9_in := goodIn_r _ [7] (by decide +kernel) (by decide +kernel)
set_option maxRecDepth 20000 in
theorem gX9_isNext_X9_in : GoodIn wsX9_isNext (va_wsS RX9 48 yX9_in wsX9_in) := goodIn_app (goodIn_of _ (by decide +kernel)) ggX9_isNext_X9_in
theorem dX9_isNext_0 : decode cX9_isNext 0 = .ok (.aload_n 0, 1) := by decide +kernel
theorem dX9_isNext_1 : decode cX9_isNext 1 = .ok (.getfield 146, 3) := by decide +kernel
theorem dX9_isNext_4 : decode cX9_isNext 4 = .ok (.aload_n 0, 1) := by decide +kernel
theorem dX9_isNext_5 : decode cX9_isNext 5 = .ok (.getfield 143, 3) := by decide +kernel
theorem dX9_isNext_8 : decode cX9_isNext 8 = .ok (.if_icmp .ge 24, 3) := by decide +kernel
theorem dX9_isNext_11 : decode cX9_isNext 11 = .ok (.aload_n 0, 1) := by decide +kernel
theorem dX9_isNext_12 : decode cX9_isNext 12 = .ok (.getfield 23, 3) := by decide +kernel
theorem dX9_isNext_15 : decode cX9_isNext 15 = .ok (.aload_n 0, 1) := by decide +kernel
theorem dX9_isNext_16 : decode cX9_isNext 16 = .ok (.getfield 146, 3) := by decide +kernel
theorem dX9_isNext_19 : decode cX9_isNext 19 = .ok (.iaload, 1) := by decide +kernel
theorem dX9_isNext_20 : decode cX9_isNext 20 = .ok (.iload_n 1, 1) := by decide +kernel
theorem dX9_isNext_21 : decode cX9_isNext 21 = .ok (.iload_n 2, 1) := by decide +kernel
theorem dX9_isNext_22 : decode cX9_isNext 22 = .ok (.invokestatic 48, 3) := by decide +kernel
theorem dX9_isNext_25 : decode cX9_isNext 25 = .ok (.ifCond .eq 7, 3) := by decide +kernel
theorem dX9_isNext_28 : decode cX9_isNext 28 = .ok (.iconst 1, 1) := by decide +kernel
theorem dX9_isNext_29 : decode cX9_isNext 29 = .ok (.goto 4, 3) := by decide +kernel
theorem dX9_isNext_32 : decode cX9_isNext 32 = .ok (.iconst 0, 1) := by decide +kernel
theorem dX9_isNext_33 : decode cX9_isNext 33 = .ok (.ireturn, 1) := by decide +kernel
set_option maxRecDepth 20000 in
theorem ggX9_takes_X9_isNext : GoodIn wsX9_takes wsX9_isNext := goodIn_r _ [6, 1, 7, 8, 9, 10, 5, 11, 12, 13, 14, 15, 16, 17, 18, 19, 20, 21, 22, 23, 24, 25, 26, 27, 28, 29, 30, 31, 32, 33, 34, 35, 36, 37] (by decide +kernel) (by decide +kernel)
set_option maxRecDepth 20000 in
theorem gX9_takes_X9_isNext : GoodIn wsX9_takes (wsV RX9 149 RX9 yX9_isNext wsX9_isNext) := goodIn_app (goodIn_of _ (by decide +kernel)) ggX9_takes_X9_isNext
theorem dX9_takes_0 : decode cX9_takes 0 = .ok (.aload_n 0, 1) := by decide +kernel
theorem dX9_takes_1 : decode cX9_takes 1 = .ok (.iload_n 1, 1) := by decide +kernel
theorem dX9_takes_2 : decode cX9_takes 2 = .ok (.iload_n 1, 1) := by decide +kernel
theorem dX9_takes_3 : decode cX9_takes 3 = .ok (.invokevirtual 149, 3) := by decide +kernel
theorem dX9_takes_6 : decode cX9_takes 6 = .ok (.istore_n 2, 1) := by decide +kernel
theorem dX9_takes_7 : decode cX9_takes 7 = .ok (.aload_n 0, 1) := by decide +kernel
theorem dX9_takes_8 : decode cX9_takes 8 = .ok (.dup, 1) := by decide +kernel
theorem dX9_takes_9 : decode cX9_takes 9 = .ok (.getfield 146, 3) := by decide +kernel
theorem dX9_takes_12 : decode cX9_takes 12 = .ok (.iload_n 2, 1) := by decide +kernel
theorem dX9_takes_13 : decode cX9_takes 13 = .ok (.ifCond .eq 7, 3) := by decide +kernel
theorem dX9_takes_16 : decode cX9_takes 16 = .ok (.iconst 1, 1) := by decide +kernel
theorem dX9_takes_17 : decode cX9_takes 17 = .ok (.goto 4, 3) := by decide +kernel
theorem dX9_takes_20 : decode cX9_takes 20 = .ok (.iconst 0, 1) := by decide +kernel
theorem dX9_takes_21 : decode cX9_takes 21 = .ok (.iadd, 1) := by decide +kernel
theorem dX9_takes_22 : decode cX9_takes 22 = .ok (.putfield 146, 3) := by decide +kernel
theorem dX9_takes_25 : decode cX9_takes 25 = .ok (.iload_n 2, 1) := by decide +kernel
theorem dX9_takes_26 : decode cX9_takes 26 = .ok (.ireturn, 1) := by decide +kernel
set_option maxRecDepth 20000 in
theorem ggX9_readColumn_X9_isNext : GoodIn wsX9_readColumn wsX9_isNext := goodIn_r _ [8, 2, 9, 1, 10, 11, 7, 12, 13, 14, 15, 16, 17, 18, 19, 20, 21, 22, 23, 24, 25, 26, 27, 28, 29, 30, 31, 32, 33, 34, 35, 36, 37, 38] (by decide +kernel) (by decide +kernel)
set_option maxRecDepth 20000 in
theorem gX9_readColumn_X9_isNext : GoodIn wsX9_readColumn (wsV RX9 149 RX9 yX9_isNext wsX9_isNext) := goodIn_app (goodIn_of _ (by decide +kernel)) ggX9_readColumn_X9_isNext
theorem dX9_readColumn_0 : decode cX9_readColumn 0 = .ok (.aload_n 0, 1) := by decide +kernel
theorem dX9_readColumn_1 : decode cX9_readColumn 1 = .ok (.bipush 48, 2) := by decide +kernel
theorem dX9_readColumn_3 : decode cX9_readColumn 3 = .ok (.bipush 57, 2) := by decide +kernel
theorem dX9_readColumn_5 : decode cX9_readColumn 5 = .ok (.invokevirtual 149, 3) := by decide +kernel
theorem dX9_readColumn_8 : decode cX9_readColumn 8 = .ok (.ifCond .ne 5, 3) := by decide +kernel
theorem dX9_readColumn_11 : decode cX9_readColumn 11 = .ok (.iconst 0, 1) := by decide +kernel
theorem dX9_readColumn_12 : decode cX9_readColumn 12 = .ok (.ireturn, 1) := by decide +kernel
theorem dX9_readColumn_13 : decode cX9_readColumn 13 = .ok (.aload_n 0, 1) := by decide +kernel
theorem dX9_readColumn_14 : decode cX9_readColumn 14 = .ok (.aload_n 0, 1) := by decide +kernel
theorem dX9_readColumn_15 : decode cX9_readColumn 15 = .ok (.getfield 23, 3) := by decide +kernel
theorem dX9_readColumn_18 : decode cX9_readColumn 18 = .ok (.aload_n 0, 1) := by decide +kernel
theorem dX9_readColumn_19 : decode cX9_readColumn 19 = .ok (.getfield 146, 3) := by decide +kernel
theorem dX9_readColumn_22 : decode cX9_readColumn 22 = .ok (.iaload, 1) := by decide +kernel
theorem dX9_readColumn_23 : decode cX9_readColumn 23 = .ok (.bipush 48, 2) := by decide +kernel
theorem dX9_readColumn_25 : decode cX9_readColumn 25 = .ok (.isub, 1) := by decide +kernel
theorem dX9_readColumn_26 : decode cX9_readColumn 26 = .ok (.putfield 152, 3) := by decide +kernel
theorem dX9_readColumn_29 : decode cX9_readColumn 29 = .ok (.aload_n 0, 1) := by decide +kernel
theorem dX9_readColumn_30 : decode cX9_readColumn 30 = .ok (.dup, 1) := by decide +kernel
theorem dX9_readColumn_31 : decode cX9_readColumn 31 = .ok (.getfield 146, 3) := by decide +kernel
theorem dX9_readColumn_34 : decode cX9_readColumn 34 = .ok (.iconst 1, 1) := by decide +kernel
theorem dX9_readColumn_35 : decode cX9_readColumn 35 = .ok (.iadd, 1) := by decide +kernel
theorem dX9_readColumn_36 : decode cX9_readColumn 36 = .ok (.putfield 146, 3) := by decide +kernel
theorem dX9_readColumn_39 : decode cX9_readColumn 39 = .ok (.aload_n 0, 1) := by decide +kernel
theorem dX9_readColumn_40 : decode cX9_readColumn 40 = .ok (.getfield 152, 3) := by decide +kernel
theorem dX9_readColumn_43 : decode cX9_readColumn 43 = .ok (.iconst 1, 1) := by decide +kernel
theorem dX9_readColumn_44 : decode cX9_readColumn 44 = .ok (.if_icmp .ne 43, 3) := by decide +kernel
theorem dX9_readColumn_47 : decode cX9_readColumn 47 = .ok (.aload_n 0, 1) := by decide +kernel
theorem dX9_readColumn_48 : decode cX9_readColumn 48 = .ok (.bipush 48, 2) := by decide +kernel
theorem dX9_readColumn_50 : decode cX9_readColumn 50 = .ok (.bipush 57, 2) := by decide +kernel
theorem dX9_readColumn_52 : decode cX9_readColumn 52 = .ok (.invokevirtual 149, 3) := by decide +kernel
theorem dX9_readColumn_55 : decode cX9_readColumn 55 = .ok (.ifCond .eq 32, 3) := by decide +kernel
theorem dX9_readColumn_58 : decode cX9_readColumn 58 = .ok (.aload_n 0, 1) := by decide +kernel
theorem dX9_readColumn_59 : decode cX9_readColumn 59 = .ok (.bipush 10, 2) := by decide +kernel
theorem dX9_readColumn_61 : decode cX9_readColumn 61 = .ok (.aload_n 0, 1) := by decide +kernel
theorem dX9_readColumn_62 : decode cX9_readColumn 62 = .ok (.getfield 23, 3) := by decide +kernel
theorem dX9_readColumn_65 : decode cX9_readColumn 65 = .ok (.aload_n 0, 1) := by decide +kernel
theorem dX9_readColumn_66 : decode cX9_readColumn 66 = .ok (.getfield 146, 3) := by decide +kernel
theorem dX9_readColumn_69 : decode cX9_readColumn 69 = .ok (.iaload, 1) := by decide +kernel
theorem dX9_readColumn_70 : decode cX9_readColumn 70 = .ok (.iadd, 1) := by decide +kernel
theorem dX9_readColumn_71 : decode cX9_readColumn 71 = .ok (.bipush 48, 2) := by decide +kernel
theorem dX9_readColumn_73 : decode cX9_readColumn 73 = .ok (.isub, 1) := by decide +kernel
theorem dX9_readColumn_74 : decode cX9_readColumn 74 = .ok (.putfield 152, 3) := by decide +kernel
theorem dX9_readColumn_77 : decode cX9_readColumn 77 = .ok (.aload_n 0, 1) := by decide +kernel
theorem dX9_readColumn_78 : decode cX9_readColumn 78 = .ok (.dup, 1) := by decide +kernel
theorem dX9_readColumn_79 : decode cX9_readColumn 79 = .ok (.getfield 146, 3) := by decide +kernel
theorem dX9_readColumn_82 : decode cX9_readColumn 82 = .ok (.iconst 1, 1) := by decide +kernel
theorem dX9_readColumn_83 : decode cX9_readColumn 83 = .ok (.iadd, 1) := by decide +kernel
theorem dX9_readColumn_84 : decode cX9_readColumn 84 = .ok (.putfield 146, 3) := by decide +kernel
theorem dX9_readColumn_87 : decode cX9_readColumn 87 = .ok (.iconst 1, 1) := by decide +kernel
theorem dX9_readColumn_88 : decode cX9_readColumn 88 = .ok (.ireturn, 1) := by decide +kernel
set_option maxRecDepth 20000 in
theorem ggX9_readDigit_X9_isNext : GoodIn wsX9_readDigit wsX9_isNext := goodIn_r _ [8, 2, 9, 1, 10, 11, 7, 12, 13, 14, 15, 16, 17, 18, 19, 20, 21, 22, 23, 24, 25, 26, 27, 28, 29, 30, 31, 32, 33, 34, 35, 36, 37, 38] (by decide +kernel) (by decide +kernel)
set_option maxRecDepth 20000 in
theorem gX9_readDigit_X9_isNext : GoodIn wsX9_readDigit (wsV RX9 149 RX9 yX9_isNext wsX9_isNext) := goodIn_app (goodIn_of _ (by decide +kernel)) ggX9_readDigit_X9_isNext
theorem dX9_readDigit_0 : decode cX9_readDigit 0 = .ok (.aload_n 0, 1) := by decide +kernel
theorem dX9_readDigit_1 : decode cX9_readDigit 1 = .ok (.bipush 48, 2) := by decide +kernel
theorem dX9_readDigit_3 : decode cX9_readDigit 3 = .ok (.bipush 48, 2) := by decide +kernel
theorem dX9_readDigit_5 : decode cX9_readDigit 5 = .ok (.iload_n 1, 1) := by decide +kernel
theorem dX9_readDigit_6 : decode cX9_readDigit 6 = .ok (.iadd, 1) := by decide +kernel
theorem dX9_readDigit_7 : decode cX9_readDigit 7 = .ok (.invokevirtual 149, 3) := by decide +kernel
theorem dX9_readDigit_10 : decode cX9_readDigit 10 = .ok (.ifCond .ne 5, 3) := by decide +kernel
theorem dX9_readDigit_13 : decode cX9_readDigit 13 = .ok (.iconst 0, 1) := by decide +kernel
theorem dX9_readDigit_14 : decode cX9_readDigit 14 = .ok (.ireturn, 1) := by decide +kernel
theorem dX9_readDigit_15 : decode cX9_readDigit 15 = .ok (.aload_n 0, 1) := by decide +kernel
theorem dX9_readDigit_16 : decode cX9_readDigit 16 = .ok (.aload_n 0, 1) := by decide +kernel
theorem dX9_readDigit_17 : decode cX9_readDigit 17 = .ok (.getfield 23, 3) := by decide +kernel
theorem dX9_readDigit_20 : decode cX9_readDigit 20 = .ok (.aload_n 0, 1) := by decide +kernel
theorem dX9_readDigit_21 : decode cX9_readDigit 21 = .ok (.getfield 146, 3) := by decide +kernel
theorem dX9_readDigit_24 : decode cX9_readDigit 24 = .ok (.iaload, 1) := by decide +kernel
theorem dX9_readDigit_25 : decode cX9_readDigit 25 = .ok (.bipush 48, 2) := by decide +kernel
theorem dX9_readDigit_27 : decode cX9_readDigit 27 = .ok (.isub, 1) := by decide +kernel
theorem dX9_readDigit_28 : decode cX9_readDigit 28 = .ok (.putfield 155, 3) := by decide +kernel
theorem dX9_readDigit_31 : decode cX9_readDigit 31 = .ok (.aload_n 0, 1) := by decide +kernel
theorem dX9_readDigit_32 : decode cX9_readDigit 32 = .ok (.dup, 1) := by decide +kernel
theorem dX9_readDigit_33 : decode cX9_readDigit 33 = .ok (.getfield 146, 3) := by decide +kernel
theorem dX9_readDigit_36 : decode cX9_readDigit 36 = .ok (.iconst 1, 1) := by decide +kernel
theorem dX9_readDigit_37 : decode cX9_readDigit 37 = .ok (.iadd, 1) := by decide +kernel
theorem dX9_readDigit_38 : decode cX9_readDigit 38 = .ok (.putfield 146, 3) := by decide +kernel
theorem dX9_readDigit_41 : decode cX9_readDigit 41 = .ok (.iconst 1, 1) := by decide +kernel
theorem dX9_readDigit_42 : decode cX9_readDigit 42 = .ok (.ireturn, 1) := by decide +kernel
set_option maxRecDepth 20000 in
theorem ggX9_readSide_X9_takes : GoodIn wsX9_readSide wsX9_takes := goodIn_r _ [6, 7, 8, 9, 10, 5, 11, 12, 13, 14, 15, 16, 17, 18, 19, 20, 21, 22, 23, 24, 25, 26, 27, 28, 29, 30, 31, 32, 33, 34, 35, 36, 37, 38, 39, 40, 41, 42] (by decide +kernel) (by decide +kernel)
set_option maxRecDepth 20000 in
theorem gX9_readSide_X9_takes : GoodIn wsX9_readSide (wsV RX9 158 RX9 yX9_takes wsX9_takes) := goodIn_app (goodIn_of _ (by decide +kernel)) ggX9_readSide_X9_takes
theorem dX9_readSide_0 : decode cX9_readSide 0 = .ok (.aload_n 0, 1) := by decide +kernel
theorem dX9_readSide_1 : decode cX9_readSide 1 = .ok (.aload_n 0, 1) := by decide +kernel
theorem dX9_readSide_2 : decode cX9_readSide 2 = .ok (.bipush 43, 2) := by decide +kernel
theorem dX9_readSide_4 : decode cX9_readSide 4 = .ok (.invokevirtual 158, 3) := by decide +kernel
theorem dX9_readSide_7 : decode cX9_readSide 7 = .ok (.ifCond .eq 7, 3) := by decide +kernel
theorem dX9_readSide_10 : decode cX9_readSide 10 = .ok (.iconst 1, 1) := by decide +kernel
theorem dX9_readSide_11 : decode cX9_readSide 11 = .ok (.goto 17, 3) := by decide +kernel
theorem dX9_readSide_14 : decode cX9_readSide 14 = .ok (.aload_n 0, 1) := by decide +kernel
theorem dX9_readSide_15 : decode cX9_readSide 15 = .ok (.bipush 45, 2) := by decide +kernel
theorem dX9_readSide_17 : decode cX9_readSide 17 = .ok (.invokevirtual 158, 3) := by decide +kernel
theorem dX9_readSide_20 : decode cX9_readSide 20 = .ok (.ifCond .eq 7, 3) := by decide +kernel
theorem dX9_readSide_23 : decode cX9_readSide 23 = .ok (.iconst (-1), 1) := by decide +kernel
theorem dX9_readSide_24 : decode cX9_readSide 24 = .ok (.goto 4, 3) := by decide +kernel
theorem dX9_readSide_27 : decode cX9_readSide 27 = .ok (.iconst 0, 1) := by decide +kernel
theorem dX9_readSide_28 : decode cX9_readSide 28 = .ok (.putfield 152, 3) := by decide +kernel
theorem dX9_readSide_31 : decode cX9_readSide 31 = .ok (.aload_n 0, 1) := by decide +kernel
theorem dX9_readSide_32 : decode cX9_readSide 32 = .ok (.getfield 152, 3) := by decide +kernel
theorem dX9_readSide_35 : decode cX9_readSide 35 = .ok (.ifCond .eq 7, 3) := by decide +kernel
theorem dX9_readSide_38 : decode cX9_readSide 38 = .ok (.iconst 1, 1) := by decide +kernel
theorem dX9_readSide_39 : decode cX9_readSide 39 = .ok (.goto 4, 3) := by decide +kernel
theorem dX9_readSide_42 : decode cX9_readSide 42 = .ok (.iconst 0, 1) := by decide +kernel
theorem dX9_readSide_43 : decode cX9_readSide 43 = .ok (.ireturn, 1) := by decide +kernel
set_option maxRecDepth 20000 in
theorem ggX9_readOrder_X9_readColumn : GoodIn wsX9_readOrder wsX9_readColumn := goodIn_r _ [9, 3, 1, 10, 11, 12, 13, 8, 14, 2, 15, 16, 17, 31, 32, 33, 34, 35, 36, 37, 38, 39, 40, 41, 42, 43, 44, 45, 46, 47, 48, 49, 50, 51, 52, 53, 54, 55, 56] (by decide +kernel) (by decide +kernel)
set_option maxRecDepth 20000 in
theorem gX9_readOrder_X9_readColumn : GoodIn wsX9_readOrder (wsV RX9 164 RX9 yX9_readColumn wsX9_readColumn) := goodIn_app (goodIn_of _ (by decide +kernel)) ggX9_readOrder_X9_readColumn
set_option maxRecDepth 20000 in
theorem ggX9_readOrder_X9_takes : GoodIn wsX9_readOrder wsX9_takes := goodIn_r _ [21, 1, 11, 12, 13, 8, 14, 2, 3, 15, 16, 17, 31, 32, 33, 34, 35, 36, 37, 38, 39, 40, 41, 42, 43, 44, 45, 46, 47, 48, 49, 50, 51, 52, 53, 54, 55, 56] (by decide +kernel) (by decide +kernel)
set_option maxRecDepth 20000 in
theorem gX9_readOrder_X9_takes : GoodIn wsX9_readOrder (wsV RX9 158 RX9 yX9_takes wsX9_takes) := goodIn_app (goodIn_of _ (by decide +kernel)) ggX9_readOrder_X9_takes
set_option maxRecDepth 20000 in
theorem ggX9_readOrder_X9_readDigit : GoodIn wsX9_readOrder wsX9_readDigit := goodIn_r _ [25, 3, 1, 26, 11, 12, 13, 8, 14, 2, 15, 16, 17, 31, 32, 33, 34, 35, 36, 37, 38, 39, 40, 41, 42, 43, 44, 45, 46, 47, 48, 49, 50, 51, 52, 53, 54, 55, 56] (by decide +kernel) (by decide +kernel)
set_option maxRecDepth 20000 in
theorem gX9_readOrder_X9_readDigit : GoodIn wsX9_readOrder (wsV RX9 168 RX9 yX9_readDigit wsX9_readDigit) := goodIn_app (goodIn_of _ (by decide +kernel)) ggX9_readOrder_X9_readDigit
set_option maxRecDepth 20000 in
theorem ggX9_readOrder_X9_readSide : GoodIn wsX9_readOrder wsX9_readSide := goodIn_r _ [30, 10, 18, 19, 20, 8, 21, 1, 11, 12, 13, 14, 2, 3, 15, 16, 17, 31, 32, 33, 34, 35, 36, 37, 38, 39, 40, 41, 42, 43, 44, 45, 46, 47, 48, 49, 50, 51, 52, 53, 54, 55, 56] (by decide +kernel) (by decide +kernel)
set_option maxRecDepth 20000 in
theorem gX9_readOrder_X9_readSide : GoodIn wsX9_readOrder (wsV RX9 171 RX9 yX9_readSide wsX9_readSide) := goodIn_app (goodIn_of _ (by decide +kernel)) ggX9_readOrder_X9_readSide
theorem dX9_readOrder_0 : decode cX9_readOrder 0 = .ok (.aload_n 0, 1) := by decide +kernel
theorem dX9_readOrder_1 : decode cX9_readOrder 1 = .ok (.aload_n 0, 1) := by decide +kernel
theorem dX9_readOrder_2 : decode cX9_readOrder 2 = .ok (.getfield 146, 3) := by decide +kernel
theorem dX9_readOrder_5 : decode cX9_readOrder 5 = .ok (.aload_n 0, 1) := by decide +kernel
theorem dX9_readOrder_6 : decode cX9_readOrder 6 = .ok (.getfield 143, 3) := by decide +kernel
theorem dX9_readOrder_9 : decode cX9_readOrder 9 = .ok (.if_icmp .ge 15, 3) := by decide +kernel
theorem dX9_readOrder_12 : decode cX9_readOrder 12 = .ok (.aload_n 0, 1) := by decide +kernel
theorem dX9_readOrder_13 : decode cX9_readOrder 13 = .ok (.getfield 23, 3) := by decide +kernel
theorem dX9_readOrder_16 : decode cX9_readOrder 16 = .ok (.aload_n 0, 1) := by decide +kernel
theorem dX9_readOrder_17 : decode cX9_readOrder 17 = .ok (.getfield 146, 3) := by decide +kernel
theorem dX9_readOrder_20 : decode cX9_readOrder 20 = .ok (.iaload, 1) := by decide +kernel
theorem dX9_readOrder_21 : decode cX9_readOrder 21 = .ok (.goto 4, 3) := by decide +kernel
theorem dX9_readOrder_24 : decode cX9_readOrder 24 = .ok (.iconst 0, 1) := by decide +kernel
theorem dX9_readOrder_25 : decode cX9_readOrder 25 = .ok (.putfield 161, 3) := by decide +kernel
theorem dX9_readOrder_28 : decode cX9_readOrder 28 = .ok (.aload_n 0, 1) := by decide +kernel
theorem dX9_readOrder_29 : decode cX9_readOrder 29 = .ok (.getfield 161, 3) := by decide +kernel
theorem dX9_readOrder_32 : decode cX9_readOrder 32 = .ok (.bipush 98, 2) := by decide +kernel
theorem dX9_readOrder_34 : decode cX9_readOrder 34 = .ok (.if_icmp .eq 23, 3) := by decide +kernel
theorem dX9_readOrder_37 : decode cX9_readOrder 37 = .ok (.aload_n 0, 1) := by decide +kernel
theorem dX9_readOrder_38 : decode cX9_readOrder 38 = .ok (.getfield 161, 3) := by decide +kernel
theorem dX9_readOrder_41 : decode cX9_readOrder 41 = .ok (.bipush 119, 2) := by decide +kernel
theorem dX9_readOrder_43 : decode cX9_readOrder 43 = .ok (.if_icmp .eq 14, 3) := by decide +kernel
theorem dX9_readOrder_46 : decode cX9_readOrder 46 = .ok (.aload_n 0, 1) := by decide +kernel
theorem dX9_readOrder_47 : decode cX9_readOrder 47 = .ok (.getfield 161, 3) := by decide +kernel
theorem dX9_readOrder_50 : decode cX9_readOrder 50 = .ok (.bipush 108, 2) := by decide +kernel
theorem dX9_readOrder_52 : decode cX9_readOrder 52 = .ok (.if_icmp .eq 5, 3) := by decide +kernel
theorem dX9_readOrder_55 : decode cX9_readOrder 55 = .ok (.iconst 0, 1) := by decide +kernel
theorem dX9_readOrder_56 : decode cX9_readOrder 56 = .ok (.ireturn, 1) := by decide +kernel
theorem dX9_readOrder_57 : decode cX9_readOrder 57 = .ok (.aload_n 0, 1) := by decide +kernel
theorem dX9_readOrder_58 : decode cX9_readOrder 58 = .ok (.dup, 1) := by decide +kernel
theorem dX9_readOrder_59 : decode cX9_readOrder 59 = .ok (.getfield 146, 3) := by decide +kernel
theorem dX9_readOrder_62 : decode cX9_readOrder 62 = .ok (.iconst 1, 1) := by decide +kernel
theorem dX9_readOrder_63 : decode cX9_readOrder 63 = .ok (.iadd, 1) := by decide +kernel
theorem dX9_readOrder_64 : decode cX9_readOrder 64 = .ok (.putfield 146, 3) := by decide +kernel
theorem dX9_readOrder_67 : decode cX9_readOrder 67 = .ok (.aload_n 0, 1) := by decide +kernel
theorem dX9_readOrder_68 : decode cX9_readOrder 68 = .ok (.getfield 161, 3) := by decide +kernel
theorem dX9_readOrder_71 : decode cX9_readOrder 71 = .ok (.bipush 98, 2) := by decide +kernel
theorem dX9_readOrder_73 : decode cX9_readOrder 73 = .ok (.if_icmp .ne 34, 3) := by decide +kernel
theorem dX9_readOrder_76 : decode cX9_readOrder 76 = .ok (.aload_n 0, 1) := by decide +kernel
theorem dX9_readOrder_77 : decode cX9_readOrder 77 = .ok (.invokevirtual 164, 3) := by decide +kernel
theorem dX9_readOrder_80 : decode cX9_readOrder 80 = .ok (.ifCond .eq 25, 3) := by decide +kernel
theorem dX9_readOrder_83 : decode cX9_readOrder 83 = .ok (.aload_n 0, 1) := by decide +kernel
theorem dX9_readOrder_84 : decode cX9_readOrder 84 = .ok (.bipush 44, 2) := by decide +kernel
theorem dX9_readOrder_86 : decode cX9_readOrder 86 = .ok (.invokevirtual 158, 3) := by decide +kernel
theorem dX9_readOrder_89 : decode cX9_readOrder 89 = .ok (.ifCond .eq 16, 3) := by decide +kernel
theorem dX9_readOrder_92 : decode cX9_readOrder 92 = .ok (.aload_n 0, 1) := by decide +kernel
theorem dX9_readOrder_93 : decode cX9_readOrder 93 = .ok (.bipush 9, 2) := by decide +kernel
theorem dX9_readOrder_95 : decode cX9_readOrder 95 = .ok (.invokevirtual 168, 3) := by decide +kernel
theorem dX9_readOrder_98 : decode cX9_readOrder 98 = .ok (.ifCond .eq 7, 3) := by decide +kernel
theorem dX9_readOrder_101 : decode cX9_readOrder 101 = .ok (.iconst 1, 1) := by decide +kernel
theorem dX9_readOrder_102 : decode cX9_readOrder 102 = .ok (.goto 4, 3) := by decide +kernel
theorem dX9_readOrder_105 : decode cX9_readOrder 105 = .ok (.iconst 0, 1) := by decide +kernel
theorem dX9_readOrder_106 : decode cX9_readOrder 106 = .ok (.ireturn, 1) := by decide +kernel
theorem dX9_readOrder_107 : decode cX9_readOrder 107 = .ok (.aload_n 0, 1) := by decide +kernel
theorem dX9_readOrder_108 : decode cX9_readOrder 108 = .ok (.invokevirtual 171, 3) := by decide +kernel
theorem dX9_readOrder_111 : decode cX9_readOrder 111 = .ok (.ifCond .eq 24, 3) := by decide +kernel
theorem dX9_readOrder_114 : decode cX9_readOrder 114 = .ok (.aload_n 0, 1) := by decide +kernel
theorem dX9_readOrder_115 : decode cX9_readOrder 115 = .ok (.getfield 161, 3) := by decide +kernel
theorem dX9_readOrder_118 : decode cX9_readOrder 118 = .ok (.bipush 119, 2) := by decide +kernel
theorem dX9_readOrder_120 : decode cX9_readOrder 120 = .ok (.if_icmp .eq 11, 3) := by decide +kernel
theorem dX9_readOrder_123 : decode cX9_readOrder 123 = .ok (.aload_n 0, 1) := by decide +kernel
theorem dX9_readOrder_124 : decode cX9_readOrder 124 = .ok (.iconst 3, 1) := by decide +kernel
theorem dX9_readOrder_125 : decode cX9_readOrder 125 = .ok (.invokevirtual 168, 3) := by decide +kernel
theorem dX9_readOrder_128 : decode cX9_readOrder 128 = .ok (.ifCond .eq 7, 3) := by decide +kernel
theorem dX9_readOrder_131 : decode cX9_readOrder 131 = .ok (.iconst 1, 1) := by decide +kernel
theorem dX9_readOrder_132 : decode cX9_readOrder 132 = .ok (.goto 4, 3) := by decide +kernel
theorem dX9_readOrder_135 : decode cX9_readOrder 135 = .ok (.iconst 0, 1) := by decide +kernel
theorem dX9_readOrder_136 : decode cX9_readOrder 136 = .ok (.ireturn, 1) := by decide +kernel
set_option maxRecDepth 20000 in
theorem ggX9_does_X9_doBuild : GoodIn wsX9_does wsX9_doBuild := goodIn_r _ [8, 9, 10, 11, 12, 7, 13, 14, 15, 16, 17, 18, 19, 20, 21, 22, 23, 24, 25, 26, 27, 57, 58, 59, 60, 61, 62, 63, 64, 65, 66, 67, 68, 69, 70, 71, 72, 73, 74, 75, 76, 77, 78, 79, 80, 81, 82] (by decide +kernel) (by decide +kernel)
set_option maxRecDepth 20000 in
theorem gX9_does_X9_doBuild : GoodIn wsX9_does (wsV RX9 131 RX9 yX9_doBuild wsX9_doBuild) := goodIn_app (goodIn_of _ (by decide +kernel)) ggX9_does_X9_doBuild
set_option maxRecDepth 20000 in
theorem ggX9_does_X9_doWalk : GoodIn wsX9_does wsX9_doWalk := goodIn_r _ [31, 9, 14, 15, 16, 7, 17, 18, 19, 20, 21, 22, 23, 24, 25, 26, 27, 10, 11, 12, 13, 57, 58, 59, 60, 61, 62, 63, 64, 65, 66, 67, 68, 69, 70, 71, 72, 73, 74, 75, 76, 77, 78, 79, 80, 81, 82] (by decide +kernel) (by decide +kernel)
set_option maxRecDepth 20000 in
theorem gX9_does_X9_doWalk : GoodIn wsX9_does (wsV RX9 137 RX9 yX9_doWalk wsX9_doWalk) := goodIn_app (goodIn_of _ (by decide +kernel)) ggX9_does_X9_doWalk
set_option maxRecDepth 20000 in
theorem ggX9_does_X9_doLeap : GoodIn wsX9_does wsX9_doLeap := goodIn_r _ [35, 9, 36, 37, 38, 39, 40, 41, 7, 42, 43, 44, 45, 46, 47, 48, 14, 15, 16, 17, 18, 19, 20, 21, 22, 23, 24, 25, 26, 27, 49, 50, 51, 52, 53, 54, 55, 56, 10, 11, 12, 13, 57, 58, 59, 60, 61, 62, 63, 64, 65, 66, 67, 68, 69, 70, 71, 72, 73, 74, 75, 76, 77, 78, 79, 80, 81, 82] (by decide +kernel) (by decide +kernel)
set_option maxRecDepth 20000 in
theorem gX9_does_X9_doLeap : GoodIn wsX9_does (wsV RX9 140 RX9 yX9_doLeap wsX9_doLeap) := goodIn_app (goodIn_of _ (by decide +kernel)) ggX9_does_X9_doLeap
theorem dX9_does_0 : decode cX9_does 0 = .ok (.aload_n 0, 1) := by decide +kernel
theorem dX9_does_1 : decode cX9_does 1 = .ok (.getfield 161, 3) := by decide +kernel
theorem dX9_does_4 : decode cX9_does 4 = .ok (.bipush 98, 2) := by decide +kernel
theorem dX9_does_6 : decode cX9_does 6 = .ok (.if_icmp .ne 18, 3) := by decide +kernel
theorem dX9_does_9 : decode cX9_does 9 = .ok (.aload_n 0, 1) := by decide +kernel
theorem dX9_does_10 : decode cX9_does 10 = .ok (.aload_n 0, 1) := by decide +kernel
theorem dX9_does_11 : decode cX9_does 11 = .ok (.getfield 152, 3) := by decide +kernel
theorem dX9_does_14 : decode cX9_does 14 = .ok (.aload_n 0, 1) := by decide +kernel
theorem dX9_does_15 : decode cX9_does 15 = .ok (.getfield 155, 3) := by decide +kernel
theorem dX9_does_18 : decode cX9_does 18 = .ok (.invokevirtual 131, 3) := by decide +kernel
theorem dX9_does_21 : decode cX9_does 21 = .ok (.goto 35, 3) := by decide +kernel
theorem dX9_does_24 : decode cX9_does 24 = .ok (.aload_n 0, 1) := by decide +kernel
theorem dX9_does_25 : decode cX9_does 25 = .ok (.getfield 161, 3) := by decide +kernel
theorem dX9_does_28 : decode cX9_does 28 = .ok (.bipush 119, 2) := by decide +kernel
theorem dX9_does_30 : decode cX9_does 30 = .ok (.if_icmp .ne 14, 3) := by decide +kernel
theorem dX9_does_33 : decode cX9_does 33 = .ok (.aload_n 0, 1) := by decide +kernel
theorem dX9_does_34 : decode cX9_does 34 = .ok (.aload_n 0, 1) := by decide +kernel
theorem dX9_does_35 : decode cX9_does 35 = .ok (.getfield 152, 3) := by decide +kernel
theorem dX9_does_38 : decode cX9_does 38 = .ok (.invokevirtual 137, 3) := by decide +kernel
theorem dX9_does_41 : decode cX9_does 41 = .ok (.goto 15, 3) := by decide +kernel
theorem dX9_does_44 : decode cX9_does 44 = .ok (.aload_n 0, 1) := by decide +kernel
theorem dX9_does_45 : decode cX9_does 45 = .ok (.aload_n 0, 1) := by decide +kernel
theorem dX9_does_46 : decode cX9_does 46 = .ok (.getfield 152, 3) := by decide +kernel
theorem dX9_does_49 : decode cX9_does 49 = .ok (.aload_n 0, 1) := by decide +kernel
theorem dX9_does_50 : decode cX9_does 50 = .ok (.getfield 155, 3) := by decide +kernel
theorem dX9_does_53 : decode cX9_does 53 = .ok (.invokevirtual 140, 3) := by decide +kernel
theorem dX9_does_56 : decode cX9_does 56 = .ok (.ireturn, 1) := by decide +kernel
set_option maxRecDepth 20000 in
theorem ggX9_readText_X9_readOrder : GoodIn wsX9_readText wsX9_readOrder := goodIn_r _ [8, 1, 3, 9, 10, 11, 12, 13, 7, 14, 15, 16, 17, 18, 19, 20, 21, 22, 23, 24, 25, 26, 27, 28, 29, 30, 31, 32, 33, 34, 35, 89, 90, 91, 92, 93, 94, 95, 96, 97, 98, 99, 100, 101, 102, 103, 104, 105, 106, 107, 108, 109, 110, 111, 112, 113, 114] (by decide +kernel) (by decide +kernel)
set_option maxRecDepth 20000 in
theorem gX9_readText_X9_readOrder : GoodIn wsX9_readText (wsV RX9 177 RX9 yX9_readOrder wsX9_readOrder) := goodIn_app (goodIn_of _ (by decide +kernel)) ggX9_readText_X9_readOrder
set_option maxRecDepth 20000 in
theorem ggX9_readText_X9_does : GoodIn wsX9_readText wsX9_does := goodIn_r _ [39, 10, 15, 31, 40, 41, 42, 7, 43, 44, 45, 46, 47, 48, 49, 50, 51, 52, 53, 54, 55, 56, 57, 58, 59, 20, 21, 22, 60, 61, 62, 63, 64, 65, 66, 67, 68, 69, 70, 71, 72, 73, 74, 75, 76, 77, 78, 79, 80, 81, 82, 83, 84, 85, 86, 87, 88, 89, 90, 91, 92, 93, 94, 95, 96, 97, 98, 99, 100, 101, 102, 103, 104, 105, 106, 107, 108, 109, 110, 111, 112, 113, 114] (by decide +kernel) (by decide +kernel)
set_option maxRecDepth 20000 in
theorem gX9_readText_X9_does : GoodIn wsX9_readText (wsV RX9 180 RX9 yX9_does wsX9_does) := goodIn_app (goodIn_of _ (by decide +kernel)) ggX9_readText_X9_does
set_option maxRecDepth 20000 in
theorem ggX9_readText_X9_takes : GoodIn wsX9_readText wsX9_takes := goodIn_r _ [26, 1, 16, 17, 18, 7, 19, 3, 9, 20, 21, 22, 89, 90, 91, 92, 93, 94, 95, 96, 97, 98, 99, 100, 101, 102, 103, 104, 105, 106, 107, 108, 109, 110, 111, 112, 113, 114] (by decide +kernel) (by decide +kernel)
set_option maxRecDepth 20000 in
theorem gX9_readText_X9_takes : GoodIn wsX9_readText (wsV RX9 158 RX9 yX9_takes wsX9_takes) := goodIn_app (goodIn_of _ (by decide +kernel)) ggX9_readText_X9_takes
theorem dX9_readText_0 : decode cX9_readText 0 = .ok (.aload_n 0, 1) := by decide +kernel
theorem dX9_readText_1 : decode cX9_readText 1 = .ok (.iconst 0, 1) := by decide +kernel
theorem dX9_readText_2 : decode cX9_readText 2 = .ok (.putfield 146, 3) := by decide +kernel
theorem dX9_readText_5 : decode cX9_readText 5 = .ok (.aload_n 0, 1) := by decide +kernel
theorem dX9_readText_6 : decode cX9_readText 6 = .ok (.iconst 0, 1) := by decide +kernel
theorem dX9_readText_7 : decode cX9_readText 7 = .ok (.putfield 174, 3) := by decide +kernel
theorem dX9_readText_10 : decode cX9_readText 10 = .ok (.aload_n 0, 1) := by decide +kernel
theorem dX9_readText_11 : decode cX9_readText 11 = .ok (.invokevirtual 177, 3) := by decide +kernel
theorem dX9_readText_14 : decode cX9_readText 14 = .ok (.istore_n 2, 1) := by decide +kernel
theorem dX9_readText_15 : decode cX9_readText 15 = .ok (.iload_n 2, 1) := by decide +kernel
theorem dX9_readText_16 : decode cX9_readText 16 = .ok (.ifCond .eq 65, 3) := by decide +kernel
theorem dX9_readText_19 : decode cX9_readText 19 = .ok (.iload_n 1, 1) := by decide +kernel
theorem dX9_readText_20 : decode cX9_readText 20 = .ok (.ifCond .eq 13, 3) := by decide +kernel
theorem dX9_readText_23 : decode cX9_readText 23 = .ok (.aload_n 0, 1) := by decide +kernel
theorem dX9_readText_24 : decode cX9_readText 24 = .ok (.invokevirtual 180, 3) := by decide +kernel
theorem dX9_readText_27 : decode cX9_readText 27 = .ok (.iconst (-1), 1) := by decide +kernel
theorem dX9_readText_28 : decode cX9_readText 28 = .ok (.if_icmp .ne 5, 3) := by decide +kernel
theorem dX9_readText_31 : decode cX9_readText 31 = .ok (.iconst 1, 1) := by decide +kernel
theorem dX9_readText_32 : decode cX9_readText 32 = .ok (.ireturn, 1) := by decide +kernel
theorem dX9_readText_33 : decode cX9_readText 33 = .ok (.aload_n 0, 1) := by decide +kernel
theorem dX9_readText_34 : decode cX9_readText 34 = .ok (.dup, 1) := by decide +kernel
theorem dX9_readText_35 : decode cX9_readText 35 = .ok (.getfield 174, 3) := by decide +kernel
theorem dX9_readText_38 : decode cX9_readText 38 = .ok (.iconst 1, 1) := by decide +kernel
theorem dX9_readText_39 : decode cX9_readText 39 = .ok (.iadd, 1) := by decide +kernel
theorem dX9_readText_40 : decode cX9_readText 40 = .ok (.putfield 174, 3) := by decide +kernel
theorem dX9_readText_43 : decode cX9_readText 43 = .ok (.aload_n 0, 1) := by decide +kernel
theorem dX9_readText_44 : decode cX9_readText 44 = .ok (.getfield 146, 3) := by decide +kernel
theorem dX9_readText_47 : decode cX9_readText 47 = .ok (.aload_n 0, 1) := by decide +kernel
theorem dX9_readText_48 : decode cX9_readText 48 = .ok (.getfield 143, 3) := by decide +kernel
theorem dX9_readText_51 : decode cX9_readText 51 = .ok (.if_icmp .ne 5, 3) := by decide +kernel
theorem dX9_readText_54 : decode cX9_readText 54 = .ok (.iconst 1, 1) := by decide +kernel
theorem dX9_readText_55 : decode cX9_readText 55 = .ok (.ireturn, 1) := by decide +kernel
theorem dX9_readText_56 : decode cX9_readText 56 = .ok (.aload_n 0, 1) := by decide +kernel
theorem dX9_readText_57 : decode cX9_readText 57 = .ok (.bipush 59, 2) := by decide +kernel
theorem dX9_readText_59 : decode cX9_readText 59 = .ok (.invokevirtual 158, 3) := by decide +kernel
theorem dX9_readText_62 : decode cX9_readText 62 = .ok (.ifCond .eq 14, 3) := by decide +kernel
theorem dX9_readText_65 : decode cX9_readText 65 = .ok (.aload_n 0, 1) := by decide +kernel
theorem dX9_readText_66 : decode cX9_readText 66 = .ok (.invokevirtual 177, 3) := by decide +kernel
theorem dX9_readText_69 : decode cX9_readText 69 = .ok (.ifCond .eq 7, 3) := by decide +kernel
theorem dX9_readText_72 : decode cX9_readText 72 = .ok (.iconst 1, 1) := by decide +kernel
theorem dX9_readText_73 : decode cX9_readText 73 = .ok (.goto 4, 3) := by decide +kernel
theorem dX9_readText_76 : decode cX9_readText 76 = .ok (.iconst 0, 1) := by decide +kernel
theorem dX9_readText_77 : decode cX9_readText 77 = .ok (.istore_n 2, 1) := by decide +kernel
theorem dX9_readText_78 : decode cX9_readText 78 = .ok (.goto (-63), 3) := by decide +kernel
theorem dX9_readText_81 : decode cX9_readText 81 = .ok (.iconst 0, 1) := by decide +kernel
theorem dX9_readText_82 : decode cX9_readText 82 = .ok (.ireturn, 1) := by decide +kernel
set_option maxRecDepth 20000 in
theorem ggX9_firstError_X9_readText : GoodIn wsX9_firstError wsX9_readText := goodIn_r _ [8, 3, 9, 2, 10, 11, 12, 7, 13, 14, 15, 16, 17, 18, 19, 20, 21, 22, 23, 24, 25, 26, 27, 28, 29, 30, 31, 32, 33, 34, 35, 36, 37, 38, 39, 40, 41, 42, 43, 44, 45, 46, 47, 48, 49, 50, 51, 52, 53, 54, 55, 56, 57, 58, 59, 60, 61, 62, 63, 64, 65, 66, 67, 68, 69, 70, 71, 72, 73, 74, 75, 76, 77, 78, 79, 80, 81, 82, 83, 84, 85, 86, 87, 88, 89, 90, 91, 92, 93, 94, 95, 96, 97, 98, 99, 100, 101, 102, 103, 104, 105, 106, 107, 108, 109, 110, 111, 112, 113, 114, 115, 116, 117, 118, 119] (by decide +kernel) (by decide +kernel)
set_option maxRecDepth 20000 in
theorem gX9_firstError_X9_readText : GoodIn wsX9_firstError (wsV RX9 183 RX9 yX9_readText wsX9_readText) := goodIn_app (goodIn_of _ (by decide +kernel)) ggX9_firstError_X9_readText
theorem dX9_firstError_0 : decode cX9_firstError 0 = .ok (.aload_n 0, 1) := by decide +kernel
theorem dX9_firstError_1 : decode cX9_firstError 1 = .ok (.iconst 0, 1) := by decide +kernel
theorem dX9_firstError_2 : decode cX9_firstError 2 = .ok (.putfield 44, 3) := by decide +kernel
theorem dX9_firstError_5 : decode cX9_firstError 5 = .ok (.aload_n 0, 1) := by decide +kernel
theorem dX9_firstError_6 : decode cX9_firstError 6 = .ok (.iconst 0, 1) := by decide +kernel
theorem dX9_firstError_7 : decode cX9_firstError 7 = .ok (.invokevirtual 183, 3) := by decide +kernel
theorem dX9_firstError_10 : decode cX9_firstError 10 = .ok (.ifCond .eq 10, 3) := by decide +kernel
theorem dX9_firstError_13 : decode cX9_firstError 13 = .ok (.aload_n 0, 1) := by decide +kernel
theorem dX9_firstError_14 : decode cX9_firstError 14 = .ok (.getfield 143, 3) := by decide +kernel
theorem dX9_firstError_17 : decode cX9_firstError 17 = .ok (.goto 7, 3) := by decide +kernel
theorem dX9_firstError_20 : decode cX9_firstError 20 = .ok (.aload_n 0, 1) := by decide +kernel
theorem dX9_firstError_21 : decode cX9_firstError 21 = .ok (.getfield 146, 3) := by decide +kernel
theorem dX9_firstError_24 : decode cX9_firstError 24 = .ok (.ireturn, 1) := by decide +kernel
set_option maxRecDepth 20000 in
theorem ggX9_run_X9_readText : GoodIn wsX9_run wsX9_readText := goodIn_r _ [7, 8, 2, 1, 9, 10, 11, 6, 12, 13, 14, 15, 16, 17, 18, 19, 20, 21, 22, 23, 24, 25, 26, 27, 28, 29, 30, 31, 32, 33, 34, 35, 36, 37, 38, 39, 40, 41, 42, 43, 44, 45, 46, 47, 48, 49, 50, 51, 52, 53, 54, 55, 56, 57, 58, 59, 60, 61, 62, 63, 64, 65, 66, 67, 68, 69, 70, 71, 72, 73, 74, 75, 76, 77, 78, 79, 80, 81, 82, 83, 84, 85, 86, 87, 88, 89, 90, 91, 92, 107, 108, 109, 110, 111, 112, 113, 114, 115, 116, 117, 118, 119, 120, 121, 122, 123, 124, 125, 126, 127, 128, 129, 130, 131, 132] (by decide +kernel) (by decide +kernel)
set_option maxRecDepth 20000 in
theorem gX9_run_X9_readText : GoodIn wsX9_run (wsV RX9 183 RX9 yX9_readText wsX9_readText) := goodIn_app (goodIn_of _ (by decide +kernel)) ggX9_run_X9_readText
set_option maxRecDepth 20000 in
theorem ggX9_run_X9_holds : GoodIn wsX9_run wsX9_holds := goodIn_r _ [96, 97, 107, 108, 109, 110, 111, 112, 113, 114, 115, 116, 117, 118, 119, 120, 121, 122, 123, 124, 125, 126, 127, 128, 129, 130, 131, 132] (by decide +kernel) (by decide +kernel)
set_option maxRecDepth 20000 in
theorem gX9_run_X9_holds : GoodIn wsX9_run (wsV RX9 125 RX9 yX9_holds wsX9_holds) := goodIn_app (goodIn_of _ (by decide +kernel)) ggX9_run_X9_holds
set_option maxRecDepth 20000 in
theorem ggX9_run_X9_save : GoodIn wsX9_run wsX9_save := goodIn_r _ [101, 102, 103, 48, 104, 105, 6, 106, 107, 108, 109, 110, 111, 112, 113, 114, 115, 116, 117, 118, 119, 120, 121, 122, 123, 124, 125, 126, 127, 128, 129, 130, 131, 132] (by decide +kernel) (by decide +kernel)
set_option maxRecDepth 20000 in
theorem gX9_run_X9_save : GoodIn wsX9_run (wsV RX9 128 RX9 yX9_save wsX9_save) := goodIn_app (goodIn_of _ (by decide +kernel)) ggX9_run_X9_save
theorem dX9_run_0 : decode cX9_run 0 = .ok (.aload_n 0, 1) := by decide +kernel
theorem dX9_run_1 : decode cX9_run 1 = .ok (.aload_n 0, 1) := by decide +kernel
theorem dX9_run_2 : decode cX9_run 2 = .ok (.iconst 0, 1) := by decide +kernel
theorem dX9_run_3 : decode cX9_run 3 = .ok (.invokevirtual 183, 3) := by decide +kernel
theorem dX9_run_6 : decode cX9_run 6 = .ok (.ifCond .eq 7, 3) := by decide +kernel
theorem dX9_run_9 : decode cX9_run 9 = .ok (.iconst 0, 1) := by decide +kernel
theorem dX9_run_10 : decode cX9_run 10 = .ok (.goto 4, 3) := by decide +kernel
theorem dX9_run_13 : decode cX9_run 13 = .ok (.iconst 1, 1) := by decide +kernel
theorem dX9_run_14 : decode cX9_run 14 = .ok (.invokevirtual 125, 3) := by decide +kernel
theorem dX9_run_17 : decode cX9_run 17 = .ok (.ifCond .ne 5, 3) := by decide +kernel
theorem dX9_run_20 : decode cX9_run 20 = .ok (.iconst 0, 1) := by decide +kernel
theorem dX9_run_21 : decode cX9_run 21 = .ok (.ireturn, 1) := by decide +kernel
theorem dX9_run_22 : decode cX9_run 22 = .ok (.aload_n 0, 1) := by decide +kernel
theorem dX9_run_23 : decode cX9_run 23 = .ok (.invokevirtual 128, 3) := by decide +kernel
theorem dX9_run_26 : decode cX9_run 26 = .ok (.aload_n 0, 1) := by decide +kernel
theorem dX9_run_27 : decode cX9_run 27 = .ok (.iconst 1, 1) := by decide +kernel
theorem dX9_run_28 : decode cX9_run 28 = .ok (.invokevirtual 183, 3) := by decide +kernel
theorem dX9_run_31 : decode cX9_run 31 = .ok (.istore_n 1, 1) := by decide +kernel
theorem dX9_run_32 : decode cX9_run 32 = .ok (.aload_n 0, 1) := by decide +kernel
theorem dX9_run_33 : decode cX9_run 33 = .ok (.iconst 0, 1) := by decide +kernel
theorem dX9_run_34 : decode cX9_run 34 = .ok (.putfield 143, 3) := by decide +kernel
theorem dX9_run_37 : decode cX9_run 37 = .ok (.iload_n 1, 1) := by decide +kernel
theorem dX9_run_38 : decode cX9_run 38 = .ok (.ifCond .eq 10, 3) := by decide +kernel
theorem dX9_run_41 : decode cX9_run 41 = .ok (.aload_n 0, 1) := by decide +kernel
theorem dX9_run_42 : decode cX9_run 42 = .ok (.getfield 174, 3) := by decide +kernel
theorem dX9_run_45 : decode cX9_run 45 = .ok (.goto 4, 3) := by decide +kernel
theorem dX9_run_48 : decode cX9_run 48 = .ok (.iconst 0, 1) := by decide +kernel
theorem dX9_run_49 : decode cX9_run 49 = .ok (.ireturn, 1) := by decide +kernel
theorem dX9_blocks_0 : decode cX9_blocks 0 = .ok (.iconst 0, 1) := by decide +kernel
theorem dX9_blocks_1 : decode cX9_blocks 1 = .ok (.istore_n 1, 1) := by decide +kernel
theorem dX9_blocks_2 : decode cX9_blocks 2 = .ok (.iconst 0, 1) := by decide +kernel
theorem dX9_blocks_3 : decode cX9_blocks 3 = .ok (.istore_n 2, 1) := by decide +kernel
theorem dX9_blocks_4 : decode cX9_blocks 4 = .ok (.iload_n 2, 1) := by decide +kernel
theorem dX9_blocks_5 : decode cX9_blocks 5 = .ok (.bipush 20, 2) := by decide +kernel
theorem dX9_blocks_7 : decode cX9_blocks 7 = .ok (.if_icmp .ge 34, 3) := by decide +kernel
theorem dX9_blocks_10 : decode cX9_blocks 10 = .ok (.aload_n 0, 1) := by decide +kernel
theorem dX9_blocks_11 : decode cX9_blocks 11 = .ok (.getfield 7, 3) := by decide +kernel
theorem dX9_blocks_14 : decode cX9_blocks 14 = .ok (.iconst 0, 1) := by decide +kernel
theorem dX9_blocks_15 : decode cX9_blocks 15 = .ok (.iload_n 2, 1) := by decide +kernel
theorem dX9_blocks_16 : decode cX9_blocks 16 = .ok (.iadd, 1) := by decide +kernel
theorem dX9_blocks_17 : decode cX9_blocks 17 = .ok (.iaload, 1) := by decide +kernel
theorem dX9_blocks_18 : decode cX9_blocks 18 = .ok (.istore_n 3, 1) := by decide +kernel
theorem dX9_blocks_19 : decode cX9_blocks 19 = .ok (.iload_n 3, 1) := by decide +kernel
theorem dX9_blocks_20 : decode cX9_blocks 20 = .ok (.ifCond .eq 15, 3) := by decide +kernel
theorem dX9_blocks_23 : decode cX9_blocks 23 = .ok (.iinc 1 1, 3) := by decide +kernel
theorem dX9_blocks_26 : decode cX9_blocks 26 = .ok (.iload_n 3, 1) := by decide +kernel
theorem dX9_blocks_27 : decode cX9_blocks 27 = .ok (.iload_n 3, 1) := by decide +kernel
theorem dX9_blocks_28 : decode cX9_blocks 28 = .ok (.iconst 1, 1) := by decide +kernel
theorem dX9_blocks_29 : decode cX9_blocks 29 = .ok (.isub, 1) := by decide +kernel
theorem dX9_blocks_30 : decode cX9_blocks 30 = .ok (.iand, 1) := by decide +kernel
theorem dX9_blocks_31 : decode cX9_blocks 31 = .ok (.istore_n 3, 1) := by decide +kernel
theorem dX9_blocks_32 : decode cX9_blocks 32 = .ok (.goto (-13), 3) := by decide +kernel
theorem dX9_blocks_35 : decode cX9_blocks 35 = .ok (.iinc 2 1, 3) := by decide +kernel
theorem dX9_blocks_38 : decode cX9_blocks 38 = .ok (.goto (-34), 3) := by decide +kernel
theorem dX9_blocks_41 : decode cX9_blocks 41 = .ok (.iload_n 1, 1) := by decide +kernel
theorem dX9_blocks_42 : decode cX9_blocks 42 = .ok (.ireturn, 1) := by decide +kernel
set_option maxRecDepth 20000 in
theorem ggX9_keep_X9_isSlot : GoodIn wsX9_keep wsX9_isSlot := goodIn_r _ [7, 8, 9, 6, 10] (by decide +kernel) (by decide +kernel)
set_option maxRecDepth 20000 in
theorem gX9_keep_X9_isSlot : GoodIn wsX9_keep (va_wsS RX9 187 yX9_isSlot wsX9_isSlot) := goodIn_app (goodIn_of _ (by decide +kernel)) ggX9_keep_X9_isSlot
set_option maxRecDepth 20000 in
theorem ggX9_keep_X9_holds : GoodIn wsX9_keep wsX9_holds := goodIn_r _ [14, 15, 23, 24, 25, 26, 27, 28, 29, 30, 31, 32, 33, 34, 35, 36, 37, 38, 39, 40, 41, 42, 43, 44, 45, 46, 47, 48] (by decide +kernel) (by decide +kernel)
set_option maxRecDepth 20000 in
theorem gX9_keep_X9_holds : GoodIn wsX9_keep (wsV RX9 125 RX9 yX9_holds wsX9_holds) := goodIn_app (goodIn_of _ (by decide +kernel)) ggX9_keep_X9_holds
set_option maxRecDepth 20000 in
theorem ggX9_keep_X9_copy : GoodIn wsX9_keep wsX9_copy := goodIn_r _ [18] (by decide +kernel) (by decide +kernel)
set_option maxRecDepth 20000 in
theorem gX9_keep_X9_copy : GoodIn wsX9_keep (va_wsS RX9 62 yX9_copy wsX9_copy) := goodIn_app (goodIn_of _ (by decide +kernel)) ggX9_keep_X9_copy
set_option maxRecDepth 20000 in
theorem ggX9_keep_X9_blocks : GoodIn wsX9_keep wsX9_blocks := goodIn_r _ [22, 1, 23, 24, 25, 26, 27, 28, 29, 30, 31, 32, 33, 34, 35, 36, 37, 38, 39, 40, 41, 42, 43, 44, 45, 46, 47, 48] (by decide +kernel) (by decide +kernel)
set_option maxRecDepth 20000 in
theorem gX9_keep_X9_blocks : GoodIn wsX9_keep (wsV RX9 190 RX9 yX9_blocks wsX9_blocks) := goodIn_app (goodIn_of _ (by decide +kernel)) ggX9_keep_X9_blocks
theorem dX9_keep_0 : decode cX9_keep 0 = .ok (.aload_n 0, 1) := by decide +kernel
theorem dX9_keep_1 : decode cX9_keep 1 = .ok (.iload_n 1, 1) := by decide +kernel
theorem dX9_keep_2 : decode cX9_keep 2 = .ok (.invokestatic 187, 3) := by decide +kernel
theorem dX9_keep_5 : decode cX9_keep 5 = .ok (.ifCond .eq 7, 3) := by decide +kernel
theorem dX9_keep_8 : decode cX9_keep 8 = .ok (.iconst 0, 1) := by decide +kernel
theorem dX9_keep_9 : decode cX9_keep 9 = .ok (.goto 4, 3) := by decide +kernel
theorem dX9_keep_12 : decode cX9_keep 12 = .ok (.iconst 1, 1) := by decide +kernel
theorem dX9_keep_13 : decode cX9_keep 13 = .ok (.invokevirtual 125, 3) := by decide +kernel
theorem dX9_keep_16 : decode cX9_keep 16 = .ok (.ifCond .ne 5, 3) := by decide +kernel
theorem dX9_keep_19 : decode cX9_keep 19 = .ok (.iconst 0, 1) := by decide +kernel
theorem dX9_keep_20 : decode cX9_keep 20 = .ok (.ireturn, 1) := by decide +kernel
theorem dX9_keep_21 : decode cX9_keep 21 = .ok (.aload_n 0, 1) := by decide +kernel
theorem dX9_keep_22 : decode cX9_keep 22 = .ok (.getfield 7, 3) := by decide +kernel
theorem dX9_keep_25 : decode cX9_keep 25 = .ok (.iconst 0, 1) := by decide +kernel
theorem dX9_keep_26 : decode cX9_keep 26 = .ok (.aload_n 0, 1) := by decide +kernel
theorem dX9_keep_27 : decode cX9_keep 27 = .ok (.getfield 16, 3) := by decide +kernel
theorem dX9_keep_30 : decode cX9_keep 30 = .ok (.bipush 28, 2) := by decide +kernel
theorem dX9_keep_32 : decode cX9_keep 32 = .ok (.iload_n 1, 1) := by decide +kernel
theorem dX9_keep_33 : decode cX9_keep 33 = .ok (.imul, 1) := by decide +kernel
theorem dX9_keep_34 : decode cX9_keep 34 = .ok (.invokestatic 62, 3) := by decide +kernel
theorem dX9_keep_37 : decode cX9_keep 37 = .ok (.aload_n 0, 1) := by decide +kernel
theorem dX9_keep_38 : decode cX9_keep 38 = .ok (.getfield 19, 3) := by decide +kernel
theorem dX9_keep_41 : decode cX9_keep 41 = .ok (.iload_n 1, 1) := by decide +kernel
theorem dX9_keep_42 : decode cX9_keep 42 = .ok (.iconst 1, 1) := by decide +kernel
theorem dX9_keep_43 : decode cX9_keep 43 = .ok (.bastore, 1) := by decide +kernel
theorem dX9_keep_44 : decode cX9_keep 44 = .ok (.aload_n 0, 1) := by decide +kernel
theorem dX9_keep_45 : decode cX9_keep 45 = .ok (.invokevirtual 190, 3) := by decide +kernel
theorem dX9_keep_48 : decode cX9_keep 48 = .ok (.ireturn, 1) := by decide +kernel
set_option maxRecDepth 20000 in
theorem ggX9_goBack_X9_isSlot : GoodIn wsX9_goBack wsX9_isSlot := goodIn_r _ [7, 8, 9, 6, 10] (by decide +kernel) (by decide +kernel)
set_option maxRecDepth 20000 in
theorem gX9_goBack_X9_isSlot : GoodIn wsX9_goBack (va_wsS RX9 187 yX9_isSlot wsX9_isSlot) := goodIn_app (goodIn_of _ (by decide +kernel)) ggX9_goBack_X9_isSlot
set_option maxRecDepth 20000 in
theorem ggX9_goBack_X9_holds : GoodIn wsX9_goBack wsX9_holds := goodIn_r _ [14, 15, 29, 30, 31, 32, 33, 34, 35, 36, 37, 38, 39, 40, 41, 42, 43, 44, 45, 46, 47, 48, 49, 50, 51, 52, 53, 54] (by decide +kernel) (by decide +kernel)
set_option maxRecDepth 20000 in
theorem gX9_goBack_X9_holds : GoodIn wsX9_goBack (wsV RX9 125 RX9 yX9_holds wsX9_holds) := goodIn_app (goodIn_of _ (by decide +kernel)) ggX9_goBack_X9_holds
set_option maxRecDepth 20000 in
theorem ggX9_goBack_X9_save : GoodIn wsX9_goBack wsX9_save := goodIn_r _ [19, 20, 21, 3, 22, 23, 6, 24, 29, 30, 31, 32, 33, 34, 35, 36, 37, 38, 39, 40, 41, 42, 43, 44, 45, 46, 47, 48, 49, 50, 51, 52, 53, 54] (by decide +kernel) (by decide +kernel)
set_option maxRecDepth 20000 in
theorem gX9_goBack_X9_save : GoodIn wsX9_goBack (wsV RX9 128 RX9 yX9_save wsX9_save) := goodIn_app (goodIn_of _ (by decide +kernel)) ggX9_goBack_X9_save
set_option maxRecDepth 20000 in
theorem ggX9_goBack_X9_copy : GoodIn wsX9_goBack wsX9_copy := goodIn_r _ [24] (by decide +kernel) (by decide +kernel)
set_option maxRecDepth 20000 in
theorem gX9_goBack_X9_copy : GoodIn wsX9_goBack (va_wsS RX9 62 yX9_copy wsX9_copy) := goodIn_app (goodIn_of _ (by decide +kernel)) ggX9_goBack_X9_copy
set_option maxRecDepth 20000 in
theorem ggX9_goBack_X9_blocks : GoodIn wsX9_goBack wsX9_blocks := goodIn_r _ [28, 3, 29, 30, 31, 32, 33, 34, 35, 36, 37, 38, 39, 40, 41, 42, 43, 44, 45, 46, 47, 48, 49, 50, 51, 52, 53, 54] (by decide +kernel) (by decide +kernel)
set_option maxRecDepth 20000 in
theorem gX9_goBack_X9_blocks : GoodIn wsX9_goBack (wsV RX9 190 RX9 yX9_blocks wsX9_blocks) := goodIn_app (goodIn_of _ (by decide +kernel)) ggX9_goBack_X9_blocks
theorem dX9_goBack_0 : decode cX9_goBack 0 = .ok (.aload_n 0, 1) := by decide +kernel
theorem dX9_goBack_1 : decode cX9_goBack 1 = .ok (.iload_n 1, 1) := by decide +kernel
theorem dX9_goBack_2 : decode cX9_goBack 2 = .ok (.invokestatic 187, 3) := by decide +kernel
theorem dX9_goBack_5 : decode cX9_goBack 5 = .ok (.ifCond .ne 7, 3) := by decide +kernel
theorem dX9_goBack_8 : decode cX9_goBack 8 = .ok (.iconst 1, 1) := by decide +kernel
theorem dX9_goBack_9 : decode cX9_goBack 9 = .ok (.goto 17, 3) := by decide +kernel
theorem dX9_goBack_12 : decode cX9_goBack 12 = .ok (.aload_n 0, 1) := by decide +kernel
theorem dX9_goBack_13 : decode cX9_goBack 13 = .ok (.getfield 19, 3) := by decide +kernel
theorem dX9_goBack_16 : decode cX9_goBack 16 = .ok (.iload_n 1, 1) := by decide +kernel
theorem dX9_goBack_17 : decode cX9_goBack 17 = .ok (.baload, 1) := by decide +kernel
theorem dX9_goBack_18 : decode cX9_goBack 18 = .ok (.ifCond .eq 7, 3) := by decide +kernel
theorem dX9_goBack_21 : decode cX9_goBack 21 = .ok (.iconst 0, 1) := by decide +kernel
theorem dX9_goBack_22 : decode cX9_goBack 22 = .ok (.goto 4, 3) := by decide +kernel
theorem dX9_goBack_25 : decode cX9_goBack 25 = .ok (.iconst 2, 1) := by decide +kernel
theorem dX9_goBack_26 : decode cX9_goBack 26 = .ok (.invokevirtual 125, 3) := by decide +kernel
theorem dX9_goBack_29 : decode cX9_goBack 29 = .ok (.ifCond .ne 5, 3) := by decide +kernel
theorem dX9_goBack_32 : decode cX9_goBack 32 = .ok (.iconst 0, 1) := by decide +kernel
theorem dX9_goBack_33 : decode cX9_goBack 33 = .ok (.ireturn, 1) := by decide +kernel
theorem dX9_goBack_34 : decode cX9_goBack 34 = .ok (.aload_n 0, 1) := by decide +kernel
theorem dX9_goBack_35 : decode cX9_goBack 35 = .ok (.invokevirtual 128, 3) := by decide +kernel
theorem dX9_goBack_38 : decode cX9_goBack 38 = .ok (.aload_n 0, 1) := by decide +kernel
theorem dX9_goBack_39 : decode cX9_goBack 39 = .ok (.getfield 16, 3) := by decide +kernel
theorem dX9_goBack_42 : decode cX9_goBack 42 = .ok (.bipush 28, 2) := by decide +kernel
theorem dX9_goBack_44 : decode cX9_goBack 44 = .ok (.iload_n 1, 1) := by decide +kernel
theorem dX9_goBack_45 : decode cX9_goBack 45 = .ok (.imul, 1) := by decide +kernel
theorem dX9_goBack_46 : decode cX9_goBack 46 = .ok (.aload_n 0, 1) := by decide +kernel
theorem dX9_goBack_47 : decode cX9_goBack 47 = .ok (.getfield 7, 3) := by decide +kernel
theorem dX9_goBack_50 : decode cX9_goBack 50 = .ok (.iconst 0, 1) := by decide +kernel
theorem dX9_goBack_51 : decode cX9_goBack 51 = .ok (.invokestatic 62, 3) := by decide +kernel
theorem dX9_goBack_54 : decode cX9_goBack 54 = .ok (.aload_n 0, 1) := by decide +kernel
theorem dX9_goBack_55 : decode cX9_goBack 55 = .ok (.invokevirtual 190, 3) := by decide +kernel
theorem dX9_goBack_58 : decode cX9_goBack 58 = .ok (.ireturn, 1) := by decide +kernel
set_option maxRecDepth 20000 in
theorem ggX9_undo_X9_holds : GoodIn wsX9_undo wsX9_holds := goodIn_r _ [8, 9, 13, 14, 15, 16, 17, 18, 19, 20, 21, 22, 23, 24, 25, 26, 27, 28, 29, 30, 31, 32, 33, 34, 35, 36, 37, 38] (by decide +kernel) (by decide +kernel)
set_option maxRecDepth 20000 in
theorem gX9_undo_X9_holds : GoodIn wsX9_undo (wsV RX9 125 RX9 yX9_holds wsX9_holds) := goodIn_app (goodIn_of _ (by decide +kernel)) ggX9_undo_X9_holds
set_option maxRecDepth 20000 in
theorem ggX9_undo_X9_copy : GoodIn wsX9_undo wsX9_copy := goodIn_r _ [12] (by decide +kernel) (by decide +kernel)
set_option maxRecDepth 20000 in
theorem gX9_undo_X9_copy : GoodIn wsX9_undo (va_wsS RX9 62 yX9_copy wsX9_copy) := goodIn_app (goodIn_of _ (by decide +kernel)) ggX9_undo_X9_copy
theorem dX9_undo_0 : decode cX9_undo 0 = .ok (.aload_n 0, 1) := by decide +kernel
theorem dX9_undo_1 : decode cX9_undo 1 = .ok (.aload_n 0, 1) := by decide +kernel
theorem dX9_undo_2 : decode cX9_undo 2 = .ok (.getfield 59, 3) := by decide +kernel
theorem dX9_undo_5 : decode cX9_undo 5 = .ok (.ifCond .le 7, 3) := by decide +kernel
theorem dX9_undo_8 : decode cX9_undo 8 = .ok (.iconst 0, 1) := by decide +kernel
theorem dX9_undo_9 : decode cX9_undo 9 = .ok (.goto 4, 3) := by decide +kernel
theorem dX9_undo_12 : decode cX9_undo 12 = .ok (.iconst 1, 1) := by decide +kernel
theorem dX9_undo_13 : decode cX9_undo 13 = .ok (.invokevirtual 125, 3) := by decide +kernel
theorem dX9_undo_16 : decode cX9_undo 16 = .ok (.ifCond .ne 5, 3) := by decide +kernel
theorem dX9_undo_19 : decode cX9_undo 19 = .ok (.iconst 0, 1) := by decide +kernel
theorem dX9_undo_20 : decode cX9_undo 20 = .ok (.ireturn, 1) := by decide +kernel
theorem dX9_undo_21 : decode cX9_undo 21 = .ok (.aload_n 0, 1) := by decide +kernel
theorem dX9_undo_22 : decode cX9_undo 22 = .ok (.dup, 1) := by decide +kernel
theorem dX9_undo_23 : decode cX9_undo 23 = .ok (.getfield 59, 3) := by decide +kernel
theorem dX9_undo_26 : decode cX9_undo 26 = .ok (.iconst 1, 1) := by decide +kernel
theorem dX9_undo_27 : decode cX9_undo 27 = .ok (.isub, 1) := by decide +kernel
theorem dX9_undo_28 : decode cX9_undo 28 = .ok (.putfield 59, 3) := by decide +kernel
theorem dX9_undo_31 : decode cX9_undo 31 = .ok (.aload_n 0, 1) := by decide +kernel
theorem dX9_undo_32 : decode cX9_undo 32 = .ok (.getfield 13, 3) := by decide +kernel
theorem dX9_undo_35 : decode cX9_undo 35 = .ok (.bipush 28, 2) := by decide +kernel
theorem dX9_undo_37 : decode cX9_undo 37 = .ok (.aload_n 0, 1) := by decide +kernel
theorem dX9_undo_38 : decode cX9_undo 38 = .ok (.getfield 59, 3) := by decide +kernel
theorem dX9_undo_41 : decode cX9_undo 41 = .ok (.imul, 1) := by decide +kernel
theorem dX9_undo_42 : decode cX9_undo 42 = .ok (.aload_n 0, 1) := by decide +kernel
theorem dX9_undo_43 : decode cX9_undo 43 = .ok (.getfield 7, 3) := by decide +kernel
theorem dX9_undo_46 : decode cX9_undo 46 = .ok (.iconst 0, 1) := by decide +kernel
theorem dX9_undo_47 : decode cX9_undo 47 = .ok (.invokestatic 62, 3) := by decide +kernel
theorem dX9_undo_50 : decode cX9_undo 50 = .ok (.aload_n 0, 1) := by decide +kernel
theorem dX9_undo_51 : decode cX9_undo 51 = .ok (.getfield 59, 3) := by decide +kernel
theorem dX9_undo_54 : decode cX9_undo 54 = .ok (.ireturn, 1) := by decide +kernel
set_option maxRecDepth 20000 in
theorem ggX9_cellTold_X9_isBlock : GoodIn wsX9_cellTold wsX9_isBlock := goodIn_r _ [5, 6, 7, 8, 4, 9, 10, 11, 12, 26, 27, 28, 29, 30, 31, 32, 33, 34, 35, 36, 37, 38, 39, 40, 41, 42, 43, 44, 45, 46, 47, 48, 49, 50, 51] (by decide +kernel) (by decide +kernel)
set_option maxRecDepth 20000 in
theorem gX9_cellTold_X9_isBlock : GoodIn wsX9_cellTold (wsV RX9 56 RX9 yX9_isBlock wsX9_isBlock) := goodIn_app (goodIn_of _ (by decide +kernel)) ggX9_cellTold_X9_isBlock
set_option maxRecDepth 20000 in
theorem ggX9_cellTold_X9_canStand : GoodIn wsX9_cellTold wsX9_canStand := goodIn_r _ [16, 1, 2, 3, 4, 5, 6, 7, 8, 9, 10, 11, 12, 26, 27, 28, 29, 30, 31, 32, 33, 34, 35, 36, 37, 38, 39, 40, 41, 42, 43, 44, 45, 46, 47, 48, 49, 50, 51] (by decide +kernel) (by decide +kernel)
set_option maxRecDepth 20000 in
theorem gX9_cellTold_X9_canStand : GoodIn wsX9_cellTold (wsV RX9 69 RX9 yX9_canStand wsX9_canStand) := goodIn_app (goodIn_of _ (by decide +kernel)) ggX9_cellTold_X9_canStand
set_option maxRecDepth 20000 in
theorem ggX9_cellTold_X9_ledgeAt : GoodIn wsX9_cellTold wsX9_ledgeAt := goodIn_r _ [20, 21, 26, 27, 28, 29, 30, 31, 32, 33, 34, 35, 36, 37, 38, 39, 40, 41, 42, 43, 44, 45, 46, 47, 48, 49, 50, 51] (by decide +kernel) (by decide +kernel)
set_option maxRecDepth 20000 in
theorem gX9_cellTold_X9_ledgeAt : GoodIn wsX9_cellTold (wsV RX9 72 RX9 yX9_ledgeAt wsX9_ledgeAt) := goodIn_app (goodIn_of _ (by decide +kernel)) ggX9_cellTold_X9_ledgeAt
set_option maxRecDepth 20000 in
theorem ggX9_cellTold_X9_greatestRun : GoodIn wsX9_cellTold wsX9_greatestRun := goodIn_r _ [25, 13, 14, 15, 4, 16, 1, 2, 3, 5, 6, 7, 8, 9, 10, 11, 12, 26, 27, 28, 29, 30, 31, 32, 33, 34, 35, 36, 37, 38, 39, 40, 41, 42, 43, 44, 45, 46, 47, 48, 49, 50, 51] (by decide +kernel) (by decide +kernel)
set_option maxRecDepth 20000 in
theorem gX9_cellTold_X9_greatestRun : GoodIn wsX9_cellTold (wsV RX9 85 RX9 yX9_greatestRun wsX9_greatestRun) := goodIn_app (goodIn_of _ (by decide +kernel)) ggX9_cellTold_X9_greatestRun
theorem dX9_cellTold_0 : decode cX9_cellTold 0 = .ok (.iload_n 3, 1) := by decide +kernel
theorem dX9_cellTold_1 : decode cX9_cellTold 1 = .ok (.tableswitch 64 0 2 #[27, 42, 57], 27) := by decide +kernel
theorem dX9_cellTold_28 : decode cX9_cellTold 28 = .ok (.aload_n 0, 1) := by decide +kernel
theorem dX9_cellTold_29 : decode cX9_cellTold 29 = .ok (.iload_n 1, 1) := by decide +kernel
theorem dX9_cellTold_30 : decode cX9_cellTold 30 = .ok (.iload_n 2, 1) := by decide +kernel
theorem dX9_cellTold_31 : decode cX9_cellTold 31 = .ok (.invokevirtual 56, 3) := by decide +kernel
theorem dX9_cellTold_34 : decode cX9_cellTold 34 = .ok (.ifCond .eq 7, 3) := by decide +kernel
theorem dX9_cellTold_37 : decode cX9_cellTold 37 = .ok (.iconst 1, 1) := by decide +kernel
theorem dX9_cellTold_38 : decode cX9_cellTold 38 = .ok (.goto 4, 3) := by decide +kernel
theorem dX9_cellTold_41 : decode cX9_cellTold 41 = .ok (.iconst 0, 1) := by decide +kernel
theorem dX9_cellTold_42 : decode cX9_cellTold 42 = .ok (.ireturn, 1) := by decide +kernel
theorem dX9_cellTold_43 : decode cX9_cellTold 43 = .ok (.aload_n 0, 1) := by decide +kernel
theorem dX9_cellTold_44 : decode cX9_cellTold 44 = .ok (.iload_n 1, 1) := by decide +kernel
theorem dX9_cellTold_45 : decode cX9_cellTold 45 = .ok (.iload_n 2, 1) := by decide +kernel
theorem dX9_cellTold_46 : decode cX9_cellTold 46 = .ok (.invokevirtual 69, 3) := by decide +kernel
theorem dX9_cellTold_49 : decode cX9_cellTold 49 = .ok (.ifCond .eq 7, 3) := by decide +kernel
theorem dX9_cellTold_52 : decode cX9_cellTold 52 = .ok (.iconst 1, 1) := by decide +kernel
theorem dX9_cellTold_53 : decode cX9_cellTold 53 = .ok (.goto 4, 3) := by decide +kernel
theorem dX9_cellTold_56 : decode cX9_cellTold 56 = .ok (.iconst 0, 1) := by decide +kernel
theorem dX9_cellTold_57 : decode cX9_cellTold 57 = .ok (.ireturn, 1) := by decide +kernel
theorem dX9_cellTold_58 : decode cX9_cellTold 58 = .ok (.aload_n 0, 1) := by decide +kernel
theorem dX9_cellTold_59 : decode cX9_cellTold 59 = .ok (.iload_n 1, 1) := by decide +kernel
theorem dX9_cellTold_60 : decode cX9_cellTold 60 = .ok (.iload_n 2, 1) := by decide +kernel
theorem dX9_cellTold_61 : decode cX9_cellTold 61 = .ok (.invokevirtual 72, 3) := by decide +kernel
theorem dX9_cellTold_64 : decode cX9_cellTold 64 = .ok (.ireturn, 1) := by decide +kernel
theorem dX9_cellTold_65 : decode cX9_cellTold 65 = .ok (.aload_n 0, 1) := by decide +kernel
theorem dX9_cellTold_66 : decode cX9_cellTold 66 = .ok (.iload_n 1, 1) := by decide +kernel
theorem dX9_cellTold_67 : decode cX9_cellTold 67 = .ok (.iload_n 2, 1) := by decide +kernel
theorem dX9_cellTold_68 : decode cX9_cellTold 68 = .ok (.iload_n 3, 1) := by decide +kernel
theorem dX9_cellTold_69 : decode cX9_cellTold 69 = .ok (.iconst 3, 1) := by decide +kernel
theorem dX9_cellTold_70 : decode cX9_cellTold 70 = .ok (.if_icmp .ne 7, 3) := by decide +kernel
theorem dX9_cellTold_73 : decode cX9_cellTold 73 = .ok (.iconst 1, 1) := by decide +kernel
theorem dX9_cellTold_74 : decode cX9_cellTold 74 = .ok (.goto 4, 3) := by decide +kernel
theorem dX9_cellTold_77 : decode cX9_cellTold 77 = .ok (.iconst (-1), 1) := by decide +kernel
theorem dX9_cellTold_78 : decode cX9_cellTold 78 = .ok (.invokevirtual 85, 3) := by decide +kernel
theorem dX9_cellTold_81 : decode cX9_cellTold 81 = .ok (.ireturn, 1) := by decide +kernel
set_option maxRecDepth 20000 in
theorem ggX9_cellOf_X9_isCell : GoodIn wsX9_cellOf wsX9_isCell := goodIn_r _ [4, 5, 6, 3, 7] (by decide +kernel) (by decide +kernel)
set_option maxRecDepth 20000 in
theorem gX9_cellOf_X9_isCell : GoodIn wsX9_cellOf (va_wsS RX9 52 yX9_isCell wsX9_isCell) := goodIn_app (goodIn_of _ (by decide +kernel)) ggX9_cellOf_X9_isCell
set_option maxRecDepth 20000 in
theorem ggX9_cellOf_X9_in : GoodIn wsX9_cellOf wsX9_in := goodIn_r _ [7] (by decide +kernel) (by decide +kernel)
set_option maxRecDepth 20000 in
theorem gX9_cellOf_X9_in : GoodIn wsX9_cellOf (va_wsS RX9 48 yX9_in wsX9_in) := goodIn_app (goodIn_of _ (by decide +kernel)) ggX9_cellOf_X9_in
set_option maxRecDepth 20000 in
theorem ggX9_cellOf_X9_holds : GoodIn wsX9_cellOf wsX9_holds := goodIn_r _ [11, 12, 42, 43, 44, 45, 46, 47, 48, 49, 50, 51, 52, 53, 54, 55, 56, 57, 58, 59, 60, 61, 62, 63, 64, 65, 66, 67] (by decide +kernel) (by decide +kernel)
set_option maxRecDepth 20000 in
theorem gX9_cellOf_X9_holds : GoodIn wsX9_cellOf (wsV RX9 125 RX9 yX9_holds wsX9_holds) := goodIn_app (goodIn_of _ (by decide +kernel)) ggX9_cellOf_X9_holds
set_option maxRecDepth 20000 in
theorem ggX9_cellOf_X9_findLedges : GoodIn wsX9_cellOf wsX9_findLedges := goodIn_r _ [16, 17, 18, 19, 20, 21, 22, 23, 3, 24, 25, 26, 27, 28, 29, 1, 2, 4, 5, 6, 7, 42, 43, 44, 45, 46, 47, 48, 49, 50, 51, 52, 53, 54, 55, 56, 57, 58, 59, 60, 61, 62, 63, 64, 65, 66, 67] (by decide +kernel) (by decide +kernel)
set_option maxRecDepth 20000 in
theorem gX9_cellOf_X9_findLedges : GoodIn wsX9_cellOf (wsV RX9 104 RX9 yX9_findLedges wsX9_findLedges) := goodIn_app (goodIn_of _ (by decide +kernel)) ggX9_cellOf_X9_findLedges
set_option maxRecDepth 20000 in
theorem ggX9_cellOf_X9_cellTold : GoodIn wsX9_cellOf wsX9_cellTold := goodIn_r _ [33, 25, 26, 27, 3, 28, 29, 1, 2, 4, 5, 6, 7, 21, 22, 23, 24, 34, 35, 36, 37, 18, 38, 39, 40, 41, 42, 43, 44, 45, 46, 47, 48, 49, 50, 51, 52, 53, 54, 55, 56, 57, 58, 59, 60, 61, 62, 63, 64, 65, 66, 67] (by decide +kernel) (by decide +kernel)
set_option maxRecDepth 20000 in
theorem gX9_cellOf_X9_cellTold : GoodIn wsX9_cellOf (wsV RX9 193 RX9 yX9_cellTold wsX9_cellTold) := goodIn_app (goodIn_of _ (by decide +kernel)) ggX9_cellOf_X9_cellTold
theorem dX9_cellOf_0 : decode cX9_cellOf 0 = .ok (.aload_n 0, 1) := by decide +kernel
theorem dX9_cellOf_1 : decode cX9_cellOf 1 = .ok (.iload_n 1, 1) := by decide +kernel
theorem dX9_cellOf_2 : decode cX9_cellOf 2 = .ok (.iload_n 2, 1) := by decide +kernel
theorem dX9_cellOf_3 : decode cX9_cellOf 3 = .ok (.invokestatic 52, 3) := by decide +kernel
theorem dX9_cellOf_6 : decode cX9_cellOf 6 = .ok (.ifCond .ne 7, 3) := by decide +kernel
theorem dX9_cellOf_9 : decode cX9_cellOf 9 = .ok (.iconst 1, 1) := by decide +kernel
theorem dX9_cellOf_10 : decode cX9_cellOf 10 = .ok (.goto 17, 3) := by decide +kernel
theorem dX9_cellOf_13 : decode cX9_cellOf 13 = .ok (.iload_n 3, 1) := by decide +kernel
theorem dX9_cellOf_14 : decode cX9_cellOf 14 = .ok (.iconst 0, 1) := by decide +kernel
theorem dX9_cellOf_15 : decode cX9_cellOf 15 = .ok (.iconst 4, 1) := by decide +kernel
theorem dX9_cellOf_16 : decode cX9_cellOf 16 = .ok (.invokestatic 48, 3) := by decide +kernel
theorem dX9_cellOf_19 : decode cX9_cellOf 19 = .ok (.ifCond .ne 7, 3) := by decide +kernel
theorem dX9_cellOf_22 : decode cX9_cellOf 22 = .ok (.iconst 2, 1) := by decide +kernel
theorem dX9_cellOf_23 : decode cX9_cellOf 23 = .ok (.goto 4, 3) := by decide +kernel
theorem dX9_cellOf_26 : decode cX9_cellOf 26 = .ok (.iconst 0, 1) := by decide +kernel
theorem dX9_cellOf_27 : decode cX9_cellOf 27 = .ok (.invokevirtual 125, 3) := by decide +kernel
theorem dX9_cellOf_30 : decode cX9_cellOf 30 = .ok (.ifCond .ne 5, 3) := by decide +kernel
theorem dX9_cellOf_33 : decode cX9_cellOf 33 = .ok (.iconst 0, 1) := by decide +kernel
theorem dX9_cellOf_34 : decode cX9_cellOf 34 = .ok (.ireturn, 1) := by decide +kernel
theorem dX9_cellOf_35 : decode cX9_cellOf 35 = .ok (.aload_n 0, 1) := by decide +kernel
theorem dX9_cellOf_36 : decode cX9_cellOf 36 = .ok (.invokevirtual 104, 3) := by decide +kernel
theorem dX9_cellOf_39 : decode cX9_cellOf 39 = .ok (.aload_n 0, 1) := by decide +kernel
theorem dX9_cellOf_40 : decode cX9_cellOf 40 = .ok (.iload_n 1, 1) := by decide +kernel
theorem dX9_cellOf_41 : decode cX9_cellOf 41 = .ok (.iload_n 2, 1) := by decide +kernel
theorem dX9_cellOf_42 : decode cX9_cellOf 42 = .ok (.iload_n 3, 1) := by decide +kernel
theorem dX9_cellOf_43 : decode cX9_cellOf 43 = .ok (.invokevirtual 193, 3) := by decide +kernel
theorem dX9_cellOf_46 : decode cX9_cellOf 46 = .ok (.ireturn, 1) := by decide +kernel
set_option maxRecDepth 20000 in
theorem ggX9_others_X9_comesTo : GoodIn wsX9_others wsX9_comesTo := goodIn_r _ [6, 7, 8, 9, 10, 11, 12, 13, 14, 15, 16, 17, 18, 19, 20, 21, 22, 23, 24, 25, 26, 27, 28, 29, 30, 31, 32, 33] (by decide +kernel) (by decide +kernel)
set_option maxRecDepth 20000 in
theorem gX9_others_X9_comesTo : GoodIn wsX9_others (wsV RX9 111 RX9 yX9_comesTo wsX9_comesTo) := goodIn_app (goodIn_of _ (by decide +kernel)) ggX9_others_X9_comesTo
theorem dX9_others_0 : decode cX9_others 0 = .ok (.iconst 0, 1) := by decide +kernel
theorem dX9_others_1 : decode cX9_others 1 = .ok (.istore 4, 2) := by decide +kernel
theorem dX9_others_3 : decode cX9_others 3 = .ok (.iconst 0, 1) := by decide +kernel
theorem dX9_others_4 : decode cX9_others 4 = .ok (.istore 5, 2) := by decide +kernel
theorem dX9_others_6 : decode cX9_others 6 = .ok (.iload 5, 2) := by decide +kernel
theorem dX9_others_8 : decode cX9_others 8 = .ok (.aload_n 0, 1) := by decide +kernel
theorem dX9_others_9 : decode cX9_others 9 = .ok (.getfield 66, 3) := by decide +kernel
theorem dX9_others_12 : decode cX9_others 12 = .ok (.if_icmp .ge 54, 3) := by decide +kernel
theorem dX9_others_15 : decode cX9_others 15 = .ok (.iload 4, 2) := by decide +kernel
theorem dX9_others_17 : decode cX9_others 17 = .ok (.iload 5, 2) := by decide +kernel
theorem dX9_others_19 : decode cX9_others 19 = .ok (.iload_n 1, 1) := by decide +kernel
theorem dX9_others_20 : decode cX9_others 20 = .ok (.if_icmp .eq 36, 3) := by decide +kernel
theorem dX9_others_23 : decode cX9_others 23 = .ok (.iload_n 3, 1) := by decide +kernel
theorem dX9_others_24 : decode cX9_others 24 = .ok (.ifCond .eq 17, 3) := by decide +kernel
theorem dX9_others_27 : decode cX9_others 27 = .ok (.aload_n 0, 1) := by decide +kernel
theorem dX9_others_28 : decode cX9_others 28 = .ok (.iload_n 1, 1) := by decide +kernel
theorem dX9_others_29 : decode cX9_others 29 = .ok (.iload 5, 2) := by decide +kernel
theorem dX9_others_31 : decode cX9_others 31 = .ok (.iload_n 2, 1) := by decide +kernel
theorem dX9_others_32 : decode cX9_others 32 = .ok (.invokevirtual 111, 3) := by decide +kernel
theorem dX9_others_35 : decode cX9_others 35 = .ok (.ifCond .eq 21, 3) := by decide +kernel
theorem dX9_others_38 : decode cX9_others 38 = .ok (.goto 14, 3) := by decide +kernel
theorem dX9_others_41 : decode cX9_others 41 = .ok (.aload_n 0, 1) := by decide +kernel
theorem dX9_others_42 : decode cX9_others 42 = .ok (.iload 5, 2) := by decide +kernel
theorem dX9_others_44 : decode cX9_others 44 = .ok (.iload_n 1, 1) := by decide +kernel
theorem dX9_others_45 : decode cX9_others 45 = .ok (.iload_n 2, 1) := by decide +kernel
theorem dX9_others_46 : decode cX9_others 46 = .ok (.invokevirtual 111, 3) := by decide +kernel
theorem dX9_others_49 : decode cX9_others 49 = .ok (.ifCond .eq 7, 3) := by decide +kernel
theorem dX9_others_52 : decode cX9_others 52 = .ok (.iconst 1, 1) := by decide +kernel
theorem dX9_others_53 : decode cX9_others 53 = .ok (.goto 4, 3) := by decide +kernel
theorem dX9_others_56 : decode cX9_others 56 = .ok (.iconst 0, 1) := by decide +kernel
theorem dX9_others_57 : decode cX9_others 57 = .ok (.iadd, 1) := by decide +kernel
theorem dX9_others_58 : decode cX9_others 58 = .ok (.istore 4, 2) := by decide +kernel
theorem dX9_others_60 : decode cX9_others 60 = .ok (.iinc 5 1, 3) := by decide +kernel
theorem dX9_others_63 : decode cX9_others 63 = .ok (.goto (-57), 3) := by decide +kernel
theorem dX9_others_66 : decode cX9_others 66 = .ok (.iload 4, 2) := by decide +kernel
theorem dX9_others_68 : decode cX9_others 68 = .ok (.ireturn, 1) := by decide +kernel
set_option maxRecDepth 20000 in
theorem ggX9_ledgeTold_X9_others : GoodIn wsX9_ledgeTold wsX9_others := goodIn_r _ [7, 8, 9, 10, 11, 6, 12, 13, 14, 15, 16, 17, 18, 19, 20, 21, 22, 23, 24, 25, 26, 27, 28, 29, 30, 31, 32, 33, 34, 35, 36, 37, 38, 39] (by decide +kernel) (by decide +kernel)
set_option maxRecDepth 20000 in
theorem gX9_ledgeTold_X9_others : GoodIn wsX9_ledgeTold (wsV RX9 196 RX9 yX9_others wsX9_others) := goodIn_app (goodIn_of _ (by decide +kernel)) ggX9_ledgeTold_X9_others
theorem dX9_ledgeTold_0 : decode cX9_ledgeTold 0 = .ok (.iload_n 2, 1) := by decide +kernel
theorem dX9_ledgeTold_1 : decode cX9_ledgeTold 1 = .ok (.tableswitch 78 0 4 #[35, 45, 55, 62, 70], 35) := by decide +kernel
theorem dX9_ledgeTold_36 : decode cX9_ledgeTold 36 = .ok (.aload_n 0, 1) := by decide +kernel
theorem dX9_ledgeTold_37 : decode cX9_ledgeTold 37 = .ok (.getfield 29, 3) := by decide +kernel
theorem dX9_ledgeTold_40 : decode cX9_ledgeTold 40 = .ok (.iload_n 1, 1) := by decide +kernel
theorem dX9_ledgeTold_41 : decode cX9_ledgeTold 41 = .ok (.iaload, 1) := by decide +kernel
theorem dX9_ledgeTold_42 : decode cX9_ledgeTold 42 = .ok (.bipush 20, 2) := by decide +kernel
theorem dX9_ledgeTold_44 : decode cX9_ledgeTold 44 = .ok (.idiv, 1) := by decide +kernel
theorem dX9_ledgeTold_45 : decode cX9_ledgeTold 45 = .ok (.ireturn, 1) := by decide +kernel
theorem dX9_ledgeTold_46 : decode cX9_ledgeTold 46 = .ok (.aload_n 0, 1) := by decide +kernel
theorem dX9_ledgeTold_47 : decode cX9_ledgeTold 47 = .ok (.getfield 29, 3) := by decide +kernel
theorem dX9_ledgeTold_50 : decode cX9_ledgeTold 50 = .ok (.iload_n 1, 1) := by decide +kernel
theorem dX9_ledgeTold_51 : decode cX9_ledgeTold 51 = .ok (.iaload, 1) := by decide +kernel
theorem dX9_ledgeTold_52 : decode cX9_ledgeTold 52 = .ok (.bipush 20, 2) := by decide +kernel
theorem dX9_ledgeTold_54 : decode cX9_ledgeTold 54 = .ok (.irem, 1) := by decide +kernel
theorem dX9_ledgeTold_55 : decode cX9_ledgeTold 55 = .ok (.ireturn, 1) := by decide +kernel
theorem dX9_ledgeTold_56 : decode cX9_ledgeTold 56 = .ok (.aload_n 0, 1) := by decide +kernel
theorem dX9_ledgeTold_57 : decode cX9_ledgeTold 57 = .ok (.getfield 32, 3) := by decide +kernel
theorem dX9_ledgeTold_60 : decode cX9_ledgeTold 60 = .ok (.iload_n 1, 1) := by decide +kernel
theorem dX9_ledgeTold_61 : decode cX9_ledgeTold 61 = .ok (.iaload, 1) := by decide +kernel
theorem dX9_ledgeTold_62 : decode cX9_ledgeTold 62 = .ok (.ireturn, 1) := by decide +kernel
theorem dX9_ledgeTold_63 : decode cX9_ledgeTold 63 = .ok (.aload_n 0, 1) := by decide +kernel
theorem dX9_ledgeTold_64 : decode cX9_ledgeTold 64 = .ok (.iload_n 1, 1) := by decide +kernel
theorem dX9_ledgeTold_65 : decode cX9_ledgeTold 65 = .ok (.iconst 3, 1) := by decide +kernel
theorem dX9_ledgeTold_66 : decode cX9_ledgeTold 66 = .ok (.iconst 1, 1) := by decide +kernel
theorem dX9_ledgeTold_67 : decode cX9_ledgeTold 67 = .ok (.invokevirtual 196, 3) := by decide +kernel
theorem dX9_ledgeTold_70 : decode cX9_ledgeTold 70 = .ok (.ireturn, 1) := by decide +kernel
theorem dX9_ledgeTold_71 : decode cX9_ledgeTold 71 = .ok (.aload_n 0, 1) := by decide +kernel
theorem dX9_ledgeTold_72 : decode cX9_ledgeTold 72 = .ok (.iload_n 1, 1) := by decide +kernel
theorem dX9_ledgeTold_73 : decode cX9_ledgeTold 73 = .ok (.iconst 0, 1) := by decide +kernel
theorem dX9_ledgeTold_74 : decode cX9_ledgeTold 74 = .ok (.iconst 1, 1) := by decide +kernel
theorem dX9_ledgeTold_75 : decode cX9_ledgeTold 75 = .ok (.invokevirtual 196, 3) := by decide +kernel
theorem dX9_ledgeTold_78 : decode cX9_ledgeTold 78 = .ok (.ireturn, 1) := by decide +kernel
theorem dX9_ledgeTold_79 : decode cX9_ledgeTold 79 = .ok (.aload_n 0, 1) := by decide +kernel
theorem dX9_ledgeTold_80 : decode cX9_ledgeTold 80 = .ok (.iload_n 1, 1) := by decide +kernel
theorem dX9_ledgeTold_81 : decode cX9_ledgeTold 81 = .ok (.iconst 3, 1) := by decide +kernel
theorem dX9_ledgeTold_82 : decode cX9_ledgeTold 82 = .ok (.iconst 0, 1) := by decide +kernel
theorem dX9_ledgeTold_83 : decode cX9_ledgeTold 83 = .ok (.invokevirtual 196, 3) := by decide +kernel
theorem dX9_ledgeTold_86 : decode cX9_ledgeTold 86 = .ok (.ireturn, 1) := by decide +kernel
set_option maxRecDepth 20000 in
theorem ggX9_isLedge_X9_findReaches : GoodIn wsX9_isLedge wsX9_findReaches := goodIn_r _ [6, 1, 7, 8, 9, 10, 11, 12, 13, 5, 14, 15, 16, 17, 18, 19, 20, 21, 22, 23, 24, 25, 26, 27, 28, 29, 30, 31, 32, 33, 34, 35, 36, 37, 38, 39, 40, 41, 42, 43, 44, 45, 46, 47, 48, 49, 50, 51, 52, 53, 54, 55, 56, 57, 58, 59, 60, 61, 62, 63, 64, 65, 66, 67, 68, 69, 70, 71, 72, 73, 74, 75, 76, 77, 78, 79, 80] (by decide +kernel) (by decide +kernel)
set_option maxRecDepth 20000 in
theorem gX9_isLedge_X9_findReaches : GoodIn wsX9_isLedge (wsV RX9 200 RX9 yX9_findReaches wsX9_findReaches) := goodIn_app (goodIn_of _ (by decide +kernel)) ggX9_isLedge_X9_findReaches
set_option maxRecDepth 20000 in
theorem ggX9_isLedge_X9_in : GoodIn wsX9_isLedge wsX9_in := goodIn_r _ [31] (by decide +kernel) (by decide +kernel)
set_option maxRecDepth 20000 in
theorem gX9_isLedge_X9_in : GoodIn wsX9_isLedge (va_wsS RX9 48 yX9_in wsX9_in) := goodIn_app (goodIn_of _ (by decide +kernel)) ggX9_isLedge_X9_in
theorem dX9_isLedge_0 : decode cX9_isLedge 0 = .ok (.aload_n 0, 1) := by decide +kernel
theorem dX9_isLedge_1 : decode cX9_isLedge 1 = .ok (.invokevirtual 200, 3) := by decide +kernel
theorem dX9_isLedge_4 : decode cX9_isLedge 4 = .ok (.iload_n 1, 1) := by decide +kernel
theorem dX9_isLedge_5 : decode cX9_isLedge 5 = .ok (.iconst 0, 1) := by decide +kernel
theorem dX9_isLedge_6 : decode cX9_isLedge 6 = .ok (.aload_n 0, 1) := by decide +kernel
theorem dX9_isLedge_7 : decode cX9_isLedge 7 = .ok (.getfield 66, 3) := by decide +kernel
theorem dX9_isLedge_10 : decode cX9_isLedge 10 = .ok (.iconst 1, 1) := by decide +kernel
theorem dX9_isLedge_11 : decode cX9_isLedge 11 = .ok (.isub, 1) := by decide +kernel
theorem dX9_isLedge_12 : decode cX9_isLedge 12 = .ok (.invokestatic 48, 3) := by decide +kernel
theorem dX9_isLedge_15 : decode cX9_isLedge 15 = .ok (.ireturn, 1) := by decide +kernel
set_option maxRecDepth 20000 in
theorem ggX9_ledgeOf_X9_isLedge : GoodIn wsX9_ledgeOf wsX9_isLedge := goodIn_r _ [5, 6, 7, 8, 9, 4, 10, 11, 12, 13, 14, 15, 16, 17, 18, 19, 20, 21, 22, 23, 24, 25, 26, 27, 28, 29, 30, 31, 32, 33, 34, 35, 36, 37, 38, 39, 40, 41, 42, 43, 44, 45, 46, 47, 48, 49, 50, 51, 52, 53, 54, 55, 56, 57, 58, 76, 77, 78, 79, 80, 81, 82, 83, 84, 85, 86, 87, 88, 89, 90, 91, 92, 93, 94, 95, 96, 97, 98, 99, 100, 101] (by decide +kernel) (by decide +kernel)
set_option maxRecDepth 20000 in
theorem gX9_ledgeOf_X9_isLedge : GoodIn wsX9_ledgeOf (wsV RX9 203 RX9 yX9_isLedge wsX9_isLedge) := goodIn_app (goodIn_of _ (by decide +kernel)) ggX9_ledgeOf_X9_isLedge
set_option maxRecDepth 20000 in
theorem ggX9_ledgeOf_X9_in : GoodIn wsX9_ledgeOf wsX9_in := goodIn_r _ [35] (by decide +kernel) (by decide +kernel)
set_option maxRecDepth 20000 in
theorem gX9_ledgeOf_X9_in : GoodIn wsX9_ledgeOf (va_wsS RX9 48 yX9_in wsX9_in) := goodIn_app (goodIn_of _ (by decide +kernel)) ggX9_ledgeOf_X9_in
set_option maxRecDepth 20000 in
theorem ggX9_ledgeOf_X9_holds : GoodIn wsX9_ledgeOf wsX9_holds := goodIn_r _ [62, 63, 76, 77, 78, 79, 80, 81, 82, 83, 84, 85, 86, 87, 88, 89, 90, 91, 92, 93, 94, 95, 96, 97, 98, 99, 100, 101] (by decide +kernel) (by decide +kernel)
set_option maxRecDepth 20000 in
theorem gX9_ledgeOf_X9_holds : GoodIn wsX9_ledgeOf (wsV RX9 125 RX9 yX9_holds wsX9_holds) := goodIn_app (goodIn_of _ (by decide +kernel)) ggX9_ledgeOf_X9_holds
set_option maxRecDepth 20000 in
theorem ggX9_ledgeOf_X9_ledgeTold : GoodIn wsX9_ledgeOf wsX9_ledgeTold := goodIn_r _ [67, 19, 20, 68, 69, 70, 4, 71, 6, 72, 73, 74, 75, 11, 76, 77, 78, 79, 80, 81, 82, 83, 84, 85, 86, 87, 88, 89, 90, 91, 92, 93, 94, 95, 96, 97, 98, 99, 100, 101] (by decide +kernel) (by decide +kernel)
set_option maxRecDepth 20000 in
theorem gX9_ledgeOf_X9_ledgeTold : GoodIn wsX9_ledgeOf (wsV RX9 206 RX9 yX9_ledgeTold wsX9_ledgeTold) := goodIn_app (goodIn_of _ (by decide +kernel)) ggX9_ledgeOf_X9_ledgeTold
theorem dX9_ledgeOf_0 : decode cX9_ledgeOf 0 = .ok (.aload_n 0, 1) := by decide +kernel
theorem dX9_ledgeOf_1 : decode cX9_ledgeOf 1 = .ok (.aload_n 0, 1) := by decide +kernel
theorem dX9_ledgeOf_2 : decode cX9_ledgeOf 2 = .ok (.iload_n 1, 1) := by decide +kernel
theorem dX9_ledgeOf_3 : decode cX9_ledgeOf 3 = .ok (.invokevirtual 203, 3) := by decide +kernel
theorem dX9_ledgeOf_6 : decode cX9_ledgeOf 6 = .ok (.ifCond .ne 7, 3) := by decide +kernel
theorem dX9_ledgeOf_9 : decode cX9_ledgeOf 9 = .ok (.iconst 1, 1) := by decide +kernel
theorem dX9_ledgeOf_10 : decode cX9_ledgeOf 10 = .ok (.goto 17, 3) := by decide +kernel
theorem dX9_ledgeOf_13 : decode cX9_ledgeOf 13 = .ok (.iload_n 2, 1) := by decide +kernel
theorem dX9_ledgeOf_14 : decode cX9_ledgeOf 14 = .ok (.iconst 0, 1) := by decide +kernel
theorem dX9_ledgeOf_15 : decode cX9_ledgeOf 15 = .ok (.iconst 5, 1) := by decide +kernel
theorem dX9_ledgeOf_16 : decode cX9_ledgeOf 16 = .ok (.invokestatic 48, 3) := by decide +kernel
theorem dX9_ledgeOf_19 : decode cX9_ledgeOf 19 = .ok (.ifCond .ne 7, 3) := by decide +kernel
theorem dX9_ledgeOf_22 : decode cX9_ledgeOf 22 = .ok (.iconst 2, 1) := by decide +kernel
theorem dX9_ledgeOf_23 : decode cX9_ledgeOf 23 = .ok (.goto 4, 3) := by decide +kernel
theorem dX9_ledgeOf_26 : decode cX9_ledgeOf 26 = .ok (.iconst 0, 1) := by decide +kernel
theorem dX9_ledgeOf_27 : decode cX9_ledgeOf 27 = .ok (.invokevirtual 125, 3) := by decide +kernel
theorem dX9_ledgeOf_30 : decode cX9_ledgeOf 30 = .ok (.ifCond .eq 12, 3) := by decide +kernel
theorem dX9_ledgeOf_33 : decode cX9_ledgeOf 33 = .ok (.aload_n 0, 1) := by decide +kernel
theorem dX9_ledgeOf_34 : decode cX9_ledgeOf 34 = .ok (.iload_n 1, 1) := by decide +kernel
theorem dX9_ledgeOf_35 : decode cX9_ledgeOf 35 = .ok (.iload_n 2, 1) := by decide +kernel
theorem dX9_ledgeOf_36 : decode cX9_ledgeOf 36 = .ok (.invokevirtual 206, 3) := by decide +kernel
theorem dX9_ledgeOf_39 : decode cX9_ledgeOf 39 = .ok (.goto 4, 3) := by decide +kernel
theorem dX9_ledgeOf_42 : decode cX9_ledgeOf 42 = .ok (.iconst 0, 1) := by decide +kernel
theorem dX9_ledgeOf_43 : decode cX9_ledgeOf 43 = .ok (.ireturn, 1) := by decide +kernel
set_option maxRecDepth 20000 in
theorem ggX9_countTold_X9_blocks : GoodIn wsX9_countTold wsX9_blocks := goodIn_r _ [8, 2, 32, 33, 34, 35, 36, 37, 38, 39, 40, 41, 42, 43, 44, 45, 46, 47, 48, 49, 50, 51, 52, 53, 54, 55, 56, 57] (by decide +kernel) (by decide +kernel)
set_option maxRecDepth 20000 in
theorem gX9_countTold_X9_blocks : GoodIn wsX9_countTold (wsV RX9 190 RX9 yX9_blocks wsX9_blocks) := goodIn_app (goodIn_of _ (by decide +kernel)) ggX9_countTold_X9_blocks
set_option maxRecDepth 20000 in
theorem ggX9_countTold_X9_ownLedge : GoodIn wsX9_countTold wsX9_ownLedge := goodIn_r _ [12, 2, 13, 14, 15, 7, 16, 17, 32, 33, 34, 35, 36, 37, 38, 39, 40, 41, 42, 43, 44, 45, 46, 47, 48, 49, 50, 51, 52, 53, 54, 55, 56, 57] (by decide +kernel) (by decide +kernel)
set_option maxRecDepth 20000 in
theorem gX9_countTold_X9_ownLedge : GoodIn wsX9_countTold (wsV RX9 114 RX9 yX9_ownLedge wsX9_ownLedge) := goodIn_app (goodIn_of _ (by decide +kernel)) ggX9_countTold_X9_ownLedge
set_option maxRecDepth 20000 in
theorem ggX9_countTold_X9_awayFromRunner : GoodIn wsX9_countTold wsX9_awayFromRunner := goodIn_r _ [21, 1, 22, 9, 10, 11, 7, 12, 2, 13, 14, 15, 16, 17, 23, 24, 25, 26, 27, 28, 29, 30, 31, 32, 33, 34, 35, 36, 37, 38, 39, 40, 41, 42, 43, 44, 45, 46, 47, 48, 49, 50, 51, 52, 53, 54, 55, 56, 57] (by decide +kernel) (by decide +kernel)
set_option maxRecDepth 20000 in
theorem gX9_countTold_X9_awayFromRunner : GoodIn wsX9_countTold (wsV RX9 209 RX9 yX9_awayFromRunner wsX9_awayFromRunner) := goodIn_app (goodIn_of _ (by decide +kernel)) ggX9_countTold_X9_awayFromRunner
theorem dX9_countTold_0 : decode cX9_countTold 0 = .ok (.iload_n 1, 1) := by decide +kernel
theorem dX9_countTold_1 : decode cX9_countTold 1 = .ok (.tableswitch 95 0 8 #[51, 56, 61, 61, 73, 78, 78, 78, 90], 51) := by decide +kernel
theorem dX9_countTold_52 : decode cX9_countTold 52 = .ok (.aload_n 0, 1) := by decide +kernel
theorem dX9_countTold_53 : decode cX9_countTold 53 = .ok (.invokevirtual 190, 3) := by decide +kernel
theorem dX9_countTold_56 : decode cX9_countTold 56 = .ok (.ireturn, 1) := by decide +kernel
theorem dX9_countTold_57 : decode cX9_countTold 57 = .ok (.aload_n 0, 1) := by decide +kernel
theorem dX9_countTold_58 : decode cX9_countTold 58 = .ok (.getfield 66, 3) := by decide +kernel
theorem dX9_countTold_61 : decode cX9_countTold 61 = .ok (.ireturn, 1) := by decide +kernel
theorem dX9_countTold_62 : decode cX9_countTold 62 = .ok (.aload_n 0, 1) := by decide +kernel
theorem dX9_countTold_63 : decode cX9_countTold 63 = .ok (.getfield 7, 3) := by decide +kernel
theorem dX9_countTold_66 : decode cX9_countTold 66 = .ok (.bipush 23, 2) := by decide +kernel
theorem dX9_countTold_68 : decode cX9_countTold 68 = .ok (.iload_n 1, 1) := by decide +kernel
theorem dX9_countTold_69 : decode cX9_countTold 69 = .ok (.iadd, 1) := by decide +kernel
theorem dX9_countTold_70 : decode cX9_countTold 70 = .ok (.iconst 2, 1) := by decide +kernel
theorem dX9_countTold_71 : decode cX9_countTold 71 = .ok (.isub, 1) := by decide +kernel
theorem dX9_countTold_72 : decode cX9_countTold 72 = .ok (.iaload, 1) := by decide +kernel
theorem dX9_countTold_73 : decode cX9_countTold 73 = .ok (.ireturn, 1) := by decide +kernel
theorem dX9_countTold_74 : decode cX9_countTold 74 = .ok (.aload_n 0, 1) := by decide +kernel
theorem dX9_countTold_75 : decode cX9_countTold 75 = .ok (.invokevirtual 114, 3) := by decide +kernel
theorem dX9_countTold_78 : decode cX9_countTold 78 = .ok (.ireturn, 1) := by decide +kernel
theorem dX9_countTold_79 : decode cX9_countTold 79 = .ok (.aload_n 0, 1) := by decide +kernel
theorem dX9_countTold_80 : decode cX9_countTold 80 = .ok (.getfield 7, 3) := by decide +kernel
theorem dX9_countTold_83 : decode cX9_countTold 83 = .ok (.bipush 25, 2) := by decide +kernel
theorem dX9_countTold_85 : decode cX9_countTold 85 = .ok (.iload_n 1, 1) := by decide +kernel
theorem dX9_countTold_86 : decode cX9_countTold 86 = .ok (.iadd, 1) := by decide +kernel
theorem dX9_countTold_87 : decode cX9_countTold 87 = .ok (.iconst 5, 1) := by decide +kernel
theorem dX9_countTold_88 : decode cX9_countTold 88 = .ok (.isub, 1) := by decide +kernel
theorem dX9_countTold_89 : decode cX9_countTold 89 = .ok (.iaload, 1) := by decide +kernel
theorem dX9_countTold_90 : decode cX9_countTold 90 = .ok (.ireturn, 1) := by decide +kernel
theorem dX9_countTold_91 : decode cX9_countTold 91 = .ok (.aload_n 0, 1) := by decide +kernel
theorem dX9_countTold_92 : decode cX9_countTold 92 = .ok (.invokevirtual 209, 3) := by decide +kernel
theorem dX9_countTold_95 : decode cX9_countTold 95 = .ok (.ireturn, 1) := by decide +kernel
theorem dX9_countTold_96 : decode cX9_countTold 96 = .ok (.aload_n 0, 1) := by decide +kernel
theorem dX9_countTold_97 : decode cX9_countTold 97 = .ok (.getfield 59, 3) := by decide +kernel
theorem dX9_countTold_100 : decode cX9_countTold 100 = .ok (.ireturn, 1) := by decide +kernel
set_option maxRecDepth 20000 in
theorem ggX9_count_X9_in : GoodIn wsX9_count wsX9_in := goodIn_r _ [4] (by decide +kernel) (by decide +kernel)
set_option maxRecDepth 20000 in
theorem gX9_count_X9_in : GoodIn wsX9_count (va_wsS RX9 48 yX9_in wsX9_in) := goodIn_app (goodIn_of _ (by decide +kernel)) ggX9_count_X9_in
set_option maxRecDepth 20000 in
theorem ggX9_count_X9_holds : GoodIn wsX9_count wsX9_holds := goodIn_r _ [8, 9, 86, 87, 88, 89, 90, 91, 92, 93, 94, 95, 96, 97, 98, 99, 100, 101, 102, 103, 104, 105, 106, 107, 108, 109, 110, 111] (by decide +kernel) (by decide +kernel)
set_option maxRecDepth 20000 in
theorem gX9_count_X9_holds : GoodIn wsX9_count (wsV RX9 125 RX9 yX9_holds wsX9_holds) := goodIn_app (goodIn_of _ (by decide +kernel)) ggX9_count_X9_holds
set_option maxRecDepth 20000 in
theorem ggX9_count_X9_findReaches : GoodIn wsX9_count wsX9_findReaches := goodIn_r _ [13, 14, 15, 16, 17, 18, 19, 20, 21, 3, 22, 23, 24, 25, 26, 27, 28, 29, 30, 31, 32, 33, 34, 35, 36, 1, 2, 4, 37, 38, 39, 40, 41, 42, 43, 44, 45, 46, 47, 48, 49, 50, 51, 52, 53, 54, 55, 56, 57, 58, 59, 86, 87, 88, 89, 90, 91, 92, 93, 94, 95, 96, 97, 98, 99, 100, 101, 102, 103, 104, 105, 106, 107, 108, 109, 110, 111] (by decide +kernel) (by decide +kernel)
set_option maxRecDepth 20000 in
theorem gX9_count_X9_findReaches : GoodIn wsX9_count (wsV RX9 200 RX9 yX9_findReaches wsX9_findReaches) := goodIn_app (goodIn_of _ (by decide +kernel)) ggX9_count_X9_findReaches
set_option maxRecDepth 20000 in
theorem ggX9_count_X9_countTold : GoodIn wsX9_count wsX9_countTold := goodIn_r _ [63, 14, 33, 64, 65, 66, 67, 3, 68, 69, 70, 71, 72, 56, 57, 58, 59, 16, 73, 74, 75, 76, 77, 78, 79, 80, 81, 82, 83, 84, 85, 15, 86, 87, 88, 89, 90, 91, 92, 93, 94, 95, 96, 97, 98, 99, 100, 101, 102, 103, 104, 105, 106, 107, 108, 109, 110, 111] (by decide +kernel) (by decide +kernel)
set_option maxRecDepth 20000 in
theorem gX9_count_X9_countTold : GoodIn wsX9_count (wsV RX9 212 RX9 yX9_countTold wsX9_countTold) := goodIn_app (goodIn_of _ (by decide +kernel)) ggX9_count_X9_countTold
theorem dX9_count_0 : decode cX9_count 0 = .ok (.aload_n 0, 1) := by decide +kernel
theorem dX9_count_1 : decode cX9_count 1 = .ok (.iload_n 1, 1) := by decide +kernel
theorem dX9_count_2 : decode cX9_count 2 = .ok (.iconst 0, 1) := by decide +kernel
theorem dX9_count_3 : decode cX9_count 3 = .ok (.bipush 9, 2) := by decide +kernel
theorem dX9_count_5 : decode cX9_count 5 = .ok (.invokestatic 48, 3) := by decide +kernel
theorem dX9_count_8 : decode cX9_count 8 = .ok (.ifCond .eq 7, 3) := by decide +kernel
theorem dX9_count_11 : decode cX9_count 11 = .ok (.iconst 0, 1) := by decide +kernel
theorem dX9_count_12 : decode cX9_count 12 = .ok (.goto 4, 3) := by decide +kernel
theorem dX9_count_15 : decode cX9_count 15 = .ok (.iconst 1, 1) := by decide +kernel
theorem dX9_count_16 : decode cX9_count 16 = .ok (.invokevirtual 125, 3) := by decide +kernel
theorem dX9_count_19 : decode cX9_count 19 = .ok (.ifCond .ne 5, 3) := by decide +kernel
theorem dX9_count_22 : decode cX9_count 22 = .ok (.iconst 0, 1) := by decide +kernel
theorem dX9_count_23 : decode cX9_count 23 = .ok (.ireturn, 1) := by decide +kernel
theorem dX9_count_24 : decode cX9_count 24 = .ok (.aload_n 0, 1) := by decide +kernel
theorem dX9_count_25 : decode cX9_count 25 = .ok (.invokevirtual 200, 3) := by decide +kernel
theorem dX9_count_28 : decode cX9_count 28 = .ok (.aload_n 0, 1) := by decide +kernel
theorem dX9_count_29 : decode cX9_count 29 = .ok (.iload_n 1, 1) := by decide +kernel
theorem dX9_count_30 : decode cX9_count 30 = .ok (.invokevirtual 212, 3) := by decide +kernel
theorem dX9_count_33 : decode cX9_count 33 = .ok (.ireturn, 1) := by decide +kernel
set_option maxRecDepth 20000 in
theorem ggX9_setting_X9_in : GoodIn wsX9_setting wsX9_in := goodIn_r _ [5] (by decide +kernel) (by decide +kernel)
set_option maxRecDepth 20000 in
theorem gX9_setting_X9_in : GoodIn wsX9_setting (va_wsS RX9 48 yX9_in wsX9_in) := goodIn_app (goodIn_of _ (by decide +kernel)) ggX9_setting_X9_in
set_option maxRecDepth 20000 in
theorem ggX9_setting_X9_holds : GoodIn wsX9_setting wsX9_holds := goodIn_r _ [9, 10, 11, 12, 13, 14, 15, 16, 17, 18, 19, 20, 21, 22, 23, 24, 25, 26, 27, 28, 29, 30, 31, 32, 33, 34, 35, 36] (by decide +kernel) (by decide +kernel)
set_option maxRecDepth 20000 in
theorem gX9_setting_X9_holds : GoodIn wsX9_setting (wsV RX9 125 RX9 yX9_holds wsX9_holds) := goodIn_app (goodIn_of _ (by decide +kernel)) ggX9_setting_X9_holds
theorem dX9_setting_0 : decode cX9_setting 0 = .ok (.aload_n 0, 1) := by decide +kernel
theorem dX9_setting_1 : decode cX9_setting 1 = .ok (.iload_n 1, 1) := by decide +kernel
theorem dX9_setting_2 : decode cX9_setting 2 = .ok (.iconst 0, 1) := by decide +kernel
theorem dX9_setting_3 : decode cX9_setting 3 = .ok (.iconst 2, 1) := by decide +kernel
theorem dX9_setting_4 : decode cX9_setting 4 = .ok (.invokestatic 48, 3) := by decide +kernel
theorem dX9_setting_7 : decode cX9_setting 7 = .ok (.ifCond .eq 7, 3) := by decide +kernel
theorem dX9_setting_10 : decode cX9_setting 10 = .ok (.iconst 0, 1) := by decide +kernel
theorem dX9_setting_11 : decode cX9_setting 11 = .ok (.goto 4, 3) := by decide +kernel
theorem dX9_setting_14 : decode cX9_setting 14 = .ok (.iconst 1, 1) := by decide +kernel
theorem dX9_setting_15 : decode cX9_setting 15 = .ok (.invokevirtual 125, 3) := by decide +kernel
theorem dX9_setting_18 : decode cX9_setting 18 = .ok (.ifCond .eq 15, 3) := by decide +kernel
theorem dX9_setting_21 : decode cX9_setting 21 = .ok (.aload_n 0, 1) := by decide +kernel
theorem dX9_setting_22 : decode cX9_setting 22 = .ok (.getfield 7, 3) := by decide +kernel
theorem dX9_setting_25 : decode cX9_setting 25 = .ok (.bipush 20, 2) := by decide +kernel
theorem dX9_setting_27 : decode cX9_setting 27 = .ok (.iload_n 1, 1) := by decide +kernel
theorem dX9_setting_28 : decode cX9_setting 28 = .ok (.iadd, 1) := by decide +kernel
theorem dX9_setting_29 : decode cX9_setting 29 = .ok (.iaload, 1) := by decide +kernel
theorem dX9_setting_30 : decode cX9_setting 30 = .ok (.goto 4, 3) := by decide +kernel
theorem dX9_setting_33 : decode cX9_setting 33 = .ok (.iconst 0, 1) := by decide +kernel
theorem dX9_setting_34 : decode cX9_setting 34 = .ok (.ireturn, 1) := by decide +kernel
theorem dX9_heightBehind_0 : decode cX9_heightBehind 0 = .ok (.aload_n 0, 1) := by decide +kernel
theorem dX9_heightBehind_1 : decode cX9_heightBehind 1 = .ok (.getfield 7, 3) := by decide +kernel
theorem dX9_heightBehind_4 : decode cX9_heightBehind 4 = .ok (.bipush 20, 2) := by decide +kernel
theorem dX9_heightBehind_6 : decode cX9_heightBehind 6 = .ok (.iaload, 1) := by decide +kernel
theorem dX9_heightBehind_7 : decode cX9_heightBehind 7 = .ok (.istore_n 2, 1) := by decide +kernel
theorem dX9_heightBehind_8 : decode cX9_heightBehind 8 = .ok (.iload_n 2, 1) := by decide +kernel
theorem dX9_heightBehind_9 : decode cX9_heightBehind 9 = .ok (.aload_n 0, 1) := by decide +kernel
theorem dX9_heightBehind_10 : decode cX9_heightBehind 10 = .ok (.getfield 7, 3) := by decide +kernel
theorem dX9_heightBehind_13 : decode cX9_heightBehind 13 = .ok (.bipush 21, 2) := by decide +kernel
theorem dX9_heightBehind_15 : decode cX9_heightBehind 15 = .ok (.iaload, 1) := by decide +kernel
theorem dX9_heightBehind_16 : decode cX9_heightBehind 16 = .ok (.iadd, 1) := by decide +kernel
theorem dX9_heightBehind_17 : decode cX9_heightBehind 17 = .ok (.istore_n 3, 1) := by decide +kernel
theorem dX9_heightBehind_18 : decode cX9_heightBehind 18 = .ok (.iload_n 1, 1) := by decide +kernel
theorem dX9_heightBehind_19 : decode cX9_heightBehind 19 = .ok (.iload_n 3, 1) := by decide +kernel
theorem dX9_heightBehind_20 : decode cX9_heightBehind 20 = .ok (.if_icmp .ge 7, 3) := by decide +kernel
theorem dX9_heightBehind_23 : decode cX9_heightBehind 23 = .ok (.iload_n 1, 1) := by decide +kernel
theorem dX9_heightBehind_24 : decode cX9_heightBehind 24 = .ok (.goto 4, 3) := by decide +kernel
theorem dX9_heightBehind_27 : decode cX9_heightBehind 27 = .ok (.iload_n 3, 1) := by decide +kernel
theorem dX9_heightBehind_28 : decode cX9_heightBehind 28 = .ok (.istore 4, 2) := by decide +kernel
theorem dX9_heightBehind_30 : decode cX9_heightBehind 30 = .ok (.iload 4, 2) := by decide +kernel
theorem dX9_heightBehind_32 : decode cX9_heightBehind 32 = .ok (.iload_n 2, 1) := by decide +kernel
theorem dX9_heightBehind_33 : decode cX9_heightBehind 33 = .ok (.imul, 1) := by decide +kernel
theorem dX9_heightBehind_34 : decode cX9_heightBehind 34 = .ok (.iload 4, 2) := by decide +kernel
theorem dX9_heightBehind_36 : decode cX9_heightBehind 36 = .ok (.iload 4, 2) := by decide +kernel
theorem dX9_heightBehind_38 : decode cX9_heightBehind 38 = .ok (.iconst 1, 1) := by decide +kernel
theorem dX9_heightBehind_39 : decode cX9_heightBehind 39 = .ok (.isub, 1) := by decide +kernel
theorem dX9_heightBehind_40 : decode cX9_heightBehind 40 = .ok (.imul, 1) := by decide +kernel
theorem dX9_heightBehind_41 : decode cX9_heightBehind 41 = .ok (.iconst 2, 1) := by decide +kernel
theorem dX9_heightBehind_42 : decode cX9_heightBehind 42 = .ok (.idiv, 1) := by decide +kernel
theorem dX9_heightBehind_43 : decode cX9_heightBehind 43 = .ok (.isub, 1) := by decide +kernel
theorem dX9_heightBehind_44 : decode cX9_heightBehind 44 = .ok (.iload_n 1, 1) := by decide +kernel
theorem dX9_heightBehind_45 : decode cX9_heightBehind 45 = .ok (.iload 4, 2) := by decide +kernel
theorem dX9_heightBehind_47 : decode cX9_heightBehind 47 = .ok (.isub, 1) := by decide +kernel
theorem dX9_heightBehind_48 : decode cX9_heightBehind 48 = .ok (.aload_n 0, 1) := by decide +kernel
theorem dX9_heightBehind_49 : decode cX9_heightBehind 49 = .ok (.getfield 7, 3) := by decide +kernel
theorem dX9_heightBehind_52 : decode cX9_heightBehind 52 = .ok (.bipush 21, 2) := by decide +kernel
theorem dX9_heightBehind_54 : decode cX9_heightBehind 54 = .ok (.iaload, 1) := by decide +kernel
theorem dX9_heightBehind_55 : decode cX9_heightBehind 55 = .ok (.imul, 1) := by decide +kernel
theorem dX9_heightBehind_56 : decode cX9_heightBehind 56 = .ok (.isub, 1) := by decide +kernel
theorem dX9_heightBehind_57 : decode cX9_heightBehind 57 = .ok (.sipush 200, 3) := by decide +kernel
theorem dX9_heightBehind_60 : decode cX9_heightBehind 60 = .ok (.iadd, 1) := by decide +kernel
theorem dX9_heightBehind_61 : decode cX9_heightBehind 61 = .ok (.ireturn, 1) := by decide +kernel
set_option maxRecDepth 20000 in
theorem ggX9_arc_X9_in : GoodIn wsX9_arc wsX9_in := goodIn_r _ [4] (by decide +kernel) (by decide +kernel)
set_option maxRecDepth 20000 in
theorem gX9_arc_X9_in : GoodIn wsX9_arc (va_wsS RX9 48 yX9_in wsX9_in) := goodIn_app (goodIn_of _ (by decide +kernel)) ggX9_arc_X9_in
set_option maxRecDepth 20000 in
theorem ggX9_arc_X9_holds : GoodIn wsX9_arc wsX9_holds := goodIn_r _ [8, 9, 15, 16, 17, 18, 19, 20, 21, 22, 23, 24, 25, 26, 27, 28, 29, 30, 31, 32, 33, 34, 35, 36, 37, 38, 39, 40] (by decide +kernel) (by decide +kernel)
set_option maxRecDepth 20000 in
theorem gX9_arc_X9_holds : GoodIn wsX9_arc (wsV RX9 125 RX9 yX9_holds wsX9_holds) := goodIn_app (goodIn_of _ (by decide +kernel)) ggX9_arc_X9_holds
set_option maxRecDepth 20000 in
theorem ggX9_arc_X9_heightBehind : GoodIn wsX9_arc wsX9_heightBehind := goodIn_r _ [13, 14, 15, 16, 17, 18, 19, 20, 21, 22, 23, 24, 25, 26, 27, 28, 29, 30, 31, 32, 33, 34, 35, 36, 37, 38, 39, 40] (by decide +kernel) (by decide +kernel)
set_option maxRecDepth 20000 in
theorem gX9_arc_X9_heightBehind : GoodIn wsX9_arc (wsV RX9 215 RX9 yX9_heightBehind wsX9_heightBehind) := goodIn_app (goodIn_of _ (by decide +kernel)) ggX9_arc_X9_heightBehind
theorem dX9_arc_0 : decode cX9_arc 0 = .ok (.aload_n 0, 1) := by decide +kernel
theorem dX9_arc_1 : decode cX9_arc 1 = .ok (.iload_n 1, 1) := by decide +kernel
theorem dX9_arc_2 : decode cX9_arc 2 = .ok (.iconst 0, 1) := by decide +kernel
theorem dX9_arc_3 : decode cX9_arc 3 = .ok (.bipush 30, 2) := by decide +kernel
theorem dX9_arc_5 : decode cX9_arc 5 = .ok (.invokestatic 48, 3) := by decide +kernel
theorem dX9_arc_8 : decode cX9_arc 8 = .ok (.ifCond .eq 16, 3) := by decide +kernel
theorem dX9_arc_11 : decode cX9_arc 11 = .ok (.iload_n 2, 1) := by decide +kernel
theorem dX9_arc_12 : decode cX9_arc 12 = .ok (.iconst 0, 1) := by decide +kernel
theorem dX9_arc_13 : decode cX9_arc 13 = .ok (.iconst 1, 1) := by decide +kernel
theorem dX9_arc_14 : decode cX9_arc 14 = .ok (.invokestatic 48, 3) := by decide +kernel
theorem dX9_arc_17 : decode cX9_arc 17 = .ok (.ifCond .eq 7, 3) := by decide +kernel
theorem dX9_arc_20 : decode cX9_arc 20 = .ok (.iconst 0, 1) := by decide +kernel
theorem dX9_arc_21 : decode cX9_arc 21 = .ok (.goto 4, 3) := by decide +kernel
theorem dX9_arc_24 : decode cX9_arc 24 = .ok (.iconst 1, 1) := by decide +kernel
theorem dX9_arc_25 : decode cX9_arc 25 = .ok (.invokevirtual 125, 3) := by decide +kernel
theorem dX9_arc_28 : decode cX9_arc 28 = .ok (.ifCond .eq 11, 3) := by decide +kernel
theorem dX9_arc_31 : decode cX9_arc 31 = .ok (.aload_n 0, 1) := by decide +kernel
theorem dX9_arc_32 : decode cX9_arc 32 = .ok (.iload_n 1, 1) := by decide +kernel
theorem dX9_arc_33 : decode cX9_arc 33 = .ok (.invokevirtual 215, 3) := by decide +kernel
theorem dX9_arc_36 : decode cX9_arc 36 = .ok (.goto 4, 3) := by decide +kernel
theorem dX9_arc_39 : decode cX9_arc 39 = .ok (.iconst 0, 1) := by decide +kernel
theorem dX9_arc_40 : decode cX9_arc 40 = .ok (.ireturn, 1) := by decide +kernel
set_option maxRecDepth 20000 in
theorem ggX9_leapTold_X9_tries : GoodIn wsX9_leapTold wsX9_tries := goodIn_r _ [10, 1, 2, 4, 3, 5, 11, 12, 13, 14, 9, 15, 16, 17, 18, 19, 20, 21, 22, 23, 24, 25, 26, 27, 28, 29, 30, 31, 32, 33, 34, 35, 36, 37, 38, 39, 40, 41, 42, 43, 44, 45, 46, 47, 48, 49, 50, 51, 52, 53, 54, 55, 56, 57, 58, 59, 60, 61, 62, 63] (by decide +kernel) (by decide +kernel)
set_option maxRecDepth 20000 in
theorem gX9_leapTold_X9_tries : GoodIn wsX9_leapTold (wsV RX9 107 RX9 yX9_tries wsX9_tries) := goodIn_app (goodIn_of _ (by decide +kernel)) ggX9_leapTold_X9_tries
theorem dX9_leapTold_0 : decode cX9_leapTold 0 = .ok (.aload_n 0, 1) := by decide +kernel
theorem dX9_leapTold_1 : decode cX9_leapTold 1 = .ok (.iload_n 1, 1) := by decide +kernel
theorem dX9_leapTold_2 : decode cX9_leapTold 2 = .ok (.iload_n 2, 1) := by decide +kernel
theorem dX9_leapTold_3 : decode cX9_leapTold 3 = .ok (.iload_n 3, 1) := by decide +kernel
theorem dX9_leapTold_4 : decode cX9_leapTold 4 = .ok (.iload 4, 2) := by decide +kernel
theorem dX9_leapTold_6 : decode cX9_leapTold 6 = .ok (.invokevirtual 107, 3) := by decide +kernel
theorem dX9_leapTold_9 : decode cX9_leapTold 9 = .ok (.ifCond .ne 5, 3) := by decide +kernel
theorem dX9_leapTold_12 : decode cX9_leapTold 12 = .ok (.iconst (-1), 1) := by decide +kernel
theorem dX9_leapTold_13 : decode cX9_leapTold 13 = .ok (.ireturn, 1) := by decide +kernel
theorem dX9_leapTold_14 : decode cX9_leapTold 14 = .ok (.iload 5, 2) := by decide +kernel
theorem dX9_leapTold_16 : decode cX9_leapTold 16 = .ok (.ifCond .ne 10, 3) := by decide +kernel
theorem dX9_leapTold_19 : decode cX9_leapTold 19 = .ok (.aload_n 0, 1) := by decide +kernel
theorem dX9_leapTold_20 : decode cX9_leapTold 20 = .ok (.getfield 76, 3) := by decide +kernel
theorem dX9_leapTold_23 : decode cX9_leapTold 23 = .ok (.goto 54, 3) := by decide +kernel
theorem dX9_leapTold_26 : decode cX9_leapTold 26 = .ok (.iload 5, 2) := by decide +kernel
theorem dX9_leapTold_28 : decode cX9_leapTold 28 = .ok (.iconst 1, 1) := by decide +kernel
theorem dX9_leapTold_29 : decode cX9_leapTold 29 = .ok (.if_icmp .ne 10, 3) := by decide +kernel
theorem dX9_leapTold_32 : decode cX9_leapTold 32 = .ok (.aload_n 0, 1) := by decide +kernel
theorem dX9_leapTold_33 : decode cX9_leapTold 33 = .ok (.getfield 79, 3) := by decide +kernel
theorem dX9_leapTold_36 : decode cX9_leapTold 36 = .ok (.goto 41, 3) := by decide +kernel
theorem dX9_leapTold_39 : decode cX9_leapTold 39 = .ok (.iload 5, 2) := by decide +kernel
theorem dX9_leapTold_41 : decode cX9_leapTold 41 = .ok (.iconst 2, 1) := by decide +kernel
theorem dX9_leapTold_42 : decode cX9_leapTold 42 = .ok (.if_icmp .ne 10, 3) := by decide +kernel
theorem dX9_leapTold_45 : decode cX9_leapTold 45 = .ok (.aload_n 0, 1) := by decide +kernel
theorem dX9_leapTold_46 : decode cX9_leapTold 46 = .ok (.getfield 89, 3) := by decide +kernel
theorem dX9_leapTold_49 : decode cX9_leapTold 49 = .ok (.goto 28, 3) := by decide +kernel
theorem dX9_leapTold_52 : decode cX9_leapTold 52 = .ok (.iload 5, 2) := by decide +kernel
theorem dX9_leapTold_54 : decode cX9_leapTold 54 = .ok (.iconst 3, 1) := by decide +kernel
theorem dX9_leapTold_55 : decode cX9_leapTold 55 = .ok (.if_icmp .ne 10, 3) := by decide +kernel
theorem dX9_leapTold_58 : decode cX9_leapTold 58 = .ok (.aload_n 0, 1) := by decide +kernel
theorem dX9_leapTold_59 : decode cX9_leapTold 59 = .ok (.getfield 82, 3) := by decide +kernel
theorem dX9_leapTold_62 : decode cX9_leapTold 62 = .ok (.goto 15, 3) := by decide +kernel
theorem dX9_leapTold_65 : decode cX9_leapTold 65 = .ok (.aload_n 0, 1) := by decide +kernel
theorem dX9_leapTold_66 : decode cX9_leapTold 66 = .ok (.getfield 92, 3) := by decide +kernel
theorem dX9_leapTold_69 : decode cX9_leapTold 69 = .ok (.ifCond .eq 7, 3) := by decide +kernel
theorem dX9_leapTold_72 : decode cX9_leapTold 72 = .ok (.iconst 1, 1) := by decide +kernel
theorem dX9_leapTold_73 : decode cX9_leapTold 73 = .ok (.goto 4, 3) := by decide +kernel
theorem dX9_leapTold_76 : decode cX9_leapTold 76 = .ok (.iconst 0, 1) := by decide +kernel
theorem dX9_leapTold_77 : decode cX9_leapTold 77 = .ok (.ireturn, 1) := by decide +kernel
set_option maxRecDepth 20000 in
theorem ggX9_ifLeapt_X9_isSide : GoodIn wsX9_ifLeapt wsX9_isSide := goodIn_r _ [4] (by decide +kernel) (by decide +kernel)
set_option maxRecDepth 20000 in
theorem gX9_ifLeapt_X9_isSide : GoodIn wsX9_ifLeapt (va_wsS RX9 134 yX9_isSide wsX9_isSide) := goodIn_app (goodIn_of _ (by decide +kernel)) ggX9_ifLeapt_X9_isSide
set_option maxRecDepth 20000 in
theorem ggX9_ifLeapt_X9_in : GoodIn wsX9_ifLeapt wsX9_in := goodIn_r _ [7] (by decide +kernel) (by decide +kernel)
set_option maxRecDepth 20000 in
theorem gX9_ifLeapt_X9_in : GoodIn wsX9_ifLeapt (va_wsS RX9 48 yX9_in wsX9_in) := goodIn_app (goodIn_of _ (by decide +kernel)) ggX9_ifLeapt_X9_in
set_option maxRecDepth 20000 in
theorem ggX9_ifLeapt_X9_isCell : GoodIn wsX9_ifLeapt wsX9_isCell := goodIn_r _ [10, 5, 6, 3, 7] (by decide +kernel) (by decide +kernel)
set_option maxRecDepth 20000 in
theorem gX9_ifLeapt_X9_isCell : GoodIn wsX9_ifLeapt (va_wsS RX9 52 yX9_isCell wsX9_isCell) := goodIn_app (goodIn_of _ (by decide +kernel)) ggX9_ifLeapt_X9_isCell
set_option maxRecDepth 20000 in
theorem ggX9_ifLeapt_X9_holds : GoodIn wsX9_ifLeapt wsX9_holds := goodIn_r _ [14, 15, 50, 51, 52, 53, 54, 55, 56, 57, 58, 59, 60, 61, 62, 63, 64, 65, 66, 67, 68, 69, 70, 71, 72, 73, 74, 75] (by decide +kernel) (by decide +kernel)
set_option maxRecDepth 20000 in
theorem gX9_ifLeapt_X9_holds : GoodIn wsX9_ifLeapt (wsV RX9 125 RX9 yX9_holds wsX9_holds) := goodIn_app (goodIn_of _ (by decide +kernel)) ggX9_ifLeapt_X9_holds
set_option maxRecDepth 20000 in
theorem ggX9_ifLeapt_X9_leapTold : GoodIn wsX9_ifLeapt wsX9_leapTold := goodIn_r _ [19, 20, 21, 22, 23, 24, 25, 26, 27, 3, 28, 29, 30, 31, 32, 33, 34, 35, 36, 37, 38, 39, 40, 41, 8, 9, 10, 5, 6, 7, 42, 43, 44, 45, 46, 47, 48, 49, 50, 51, 52, 53, 54, 55, 56, 57, 58, 59, 60, 61, 62, 63, 64, 65, 66, 67, 68, 69, 70, 71, 72, 73, 74, 75] (by decide +kernel) (by decide +kernel)
set_option maxRecDepth 20000 in
theorem gX9_ifLeapt_X9_leapTold : GoodIn wsX9_ifLeapt (wsV RX9 218 RX9 yX9_leapTold wsX9_leapTold) := goodIn_app (goodIn_of _ (by decide +kernel)) ggX9_ifLeapt_X9_leapTold
theorem dX9_ifLeapt_0 : decode cX9_ifLeapt 0 = .ok (.iload_n 3, 1) := by decide +kernel
theorem dX9_ifLeapt_1 : decode cX9_ifLeapt 1 = .ok (.invokestatic 134, 3) := by decide +kernel
theorem dX9_ifLeapt_4 : decode cX9_ifLeapt 4 = .ok (.ifCond .eq 27, 3) := by decide +kernel
theorem dX9_ifLeapt_7 : decode cX9_ifLeapt 7 = .ok (.iload 4, 2) := by decide +kernel
theorem dX9_ifLeapt_9 : decode cX9_ifLeapt 9 = .ok (.iconst 0, 1) := by decide +kernel
theorem dX9_ifLeapt_10 : decode cX9_ifLeapt 10 = .ok (.iconst 3, 1) := by decide +kernel
theorem dX9_ifLeapt_11 : decode cX9_ifLeapt 11 = .ok (.invokestatic 48, 3) := by decide +kernel
theorem dX9_ifLeapt_14 : decode cX9_ifLeapt 14 = .ok (.ifCond .eq 17, 3) := by decide +kernel
theorem dX9_ifLeapt_17 : decode cX9_ifLeapt 17 = .ok (.iload 5, 2) := by decide +kernel
theorem dX9_ifLeapt_19 : decode cX9_ifLeapt 19 = .ok (.iconst 0, 1) := by decide +kernel
theorem dX9_ifLeapt_20 : decode cX9_ifLeapt 20 = .ok (.iconst 4, 1) := by decide +kernel
theorem dX9_ifLeapt_21 : decode cX9_ifLeapt 21 = .ok (.invokestatic 48, 3) := by decide +kernel
theorem dX9_ifLeapt_24 : decode cX9_ifLeapt 24 = .ok (.ifCond .eq 7, 3) := by decide +kernel
theorem dX9_ifLeapt_27 : decode cX9_ifLeapt 27 = .ok (.iconst 1, 1) := by decide +kernel
theorem dX9_ifLeapt_28 : decode cX9_ifLeapt 28 = .ok (.goto 4, 3) := by decide +kernel
theorem dX9_ifLeapt_31 : decode cX9_ifLeapt 31 = .ok (.iconst 0, 1) := by decide +kernel
theorem dX9_ifLeapt_32 : decode cX9_ifLeapt 32 = .ok (.istore 6, 2) := by decide +kernel
theorem dX9_ifLeapt_34 : decode cX9_ifLeapt 34 = .ok (.aload_n 0, 1) := by decide +kernel
theorem dX9_ifLeapt_35 : decode cX9_ifLeapt 35 = .ok (.iload_n 1, 1) := by decide +kernel
theorem dX9_ifLeapt_36 : decode cX9_ifLeapt 36 = .ok (.iload_n 2, 1) := by decide +kernel
theorem dX9_ifLeapt_37 : decode cX9_ifLeapt 37 = .ok (.invokestatic 52, 3) := by decide +kernel
theorem dX9_ifLeapt_40 : decode cX9_ifLeapt 40 = .ok (.ifCond .ne 7, 3) := by decide +kernel
theorem dX9_ifLeapt_43 : decode cX9_ifLeapt 43 = .ok (.iconst 1, 1) := by decide +kernel
theorem dX9_ifLeapt_44 : decode cX9_ifLeapt 44 = .ok (.goto 13, 3) := by decide +kernel
theorem dX9_ifLeapt_47 : decode cX9_ifLeapt 47 = .ok (.iload 6, 2) := by decide +kernel
theorem dX9_ifLeapt_49 : decode cX9_ifLeapt 49 = .ok (.ifCond .ne 7, 3) := by decide +kernel
theorem dX9_ifLeapt_52 : decode cX9_ifLeapt 52 = .ok (.iconst 2, 1) := by decide +kernel
theorem dX9_ifLeapt_53 : decode cX9_ifLeapt 53 = .ok (.goto 4, 3) := by decide +kernel
theorem dX9_ifLeapt_56 : decode cX9_ifLeapt 56 = .ok (.iconst 0, 1) := by decide +kernel
theorem dX9_ifLeapt_57 : decode cX9_ifLeapt 57 = .ok (.invokevirtual 125, 3) := by decide +kernel
theorem dX9_ifLeapt_60 : decode cX9_ifLeapt 60 = .ok (.ifCond .eq 17, 3) := by decide +kernel
theorem dX9_ifLeapt_63 : decode cX9_ifLeapt 63 = .ok (.aload_n 0, 1) := by decide +kernel
theorem dX9_ifLeapt_64 : decode cX9_ifLeapt 64 = .ok (.iload_n 1, 1) := by decide +kernel
theorem dX9_ifLeapt_65 : decode cX9_ifLeapt 65 = .ok (.iload_n 2, 1) := by decide +kernel
theorem dX9_ifLeapt_66 : decode cX9_ifLeapt 66 = .ok (.iload_n 3, 1) := by decide +kernel
theorem dX9_ifLeapt_67 : decode cX9_ifLeapt 67 = .ok (.iload 4, 2) := by decide +kernel
theorem dX9_ifLeapt_69 : decode cX9_ifLeapt 69 = .ok (.iload 5, 2) := by decide +kernel
theorem dX9_ifLeapt_71 : decode cX9_ifLeapt 71 = .ok (.invokevirtual 218, 3) := by decide +kernel
theorem dX9_ifLeapt_74 : decode cX9_ifLeapt 74 = .ok (.goto 4, 3) := by decide +kernel
theorem dX9_ifLeapt_77 : decode cX9_ifLeapt 77 = .ok (.iconst 0, 1) := by decide +kernel
theorem dX9_ifLeapt_78 : decode cX9_ifLeapt 78 = .ok (.ireturn, 1) := by decide +kernel
set_option maxRecDepth 20000 in
theorem ggX9_slowest_X9_isLedge : GoodIn wsX9_slowest wsX9_isLedge := goodIn_r _ [7, 1, 8, 9, 10, 6, 11, 2, 12, 13, 14, 15, 16, 17, 18, 19, 20, 21, 22, 23, 24, 25, 26, 27, 28, 29, 30, 31, 32, 33, 34, 35, 36, 37, 38, 39, 40, 41, 42, 43, 44, 45, 46, 47, 48, 49, 50, 51, 52, 53, 54, 55, 56, 57, 58, 64, 65, 66, 67, 68, 69, 70, 71, 72, 73, 74, 75, 76, 77, 78, 79, 80, 81, 82, 83, 84, 85, 86, 87, 88, 89] (by decide +kernel) (by decide +kernel)
set_option maxRecDepth 20000 in
theorem gX9_slowest_X9_isLedge : GoodIn wsX9_slowest (wsV RX9 203 RX9 yX9_isLedge wsX9_isLedge) := goodIn_app (goodIn_of _ (by decide +kernel)) ggX9_slowest_X9_isLedge
set_option maxRecDepth 20000 in
theorem ggX9_slowest_X9_in : GoodIn wsX9_slowest wsX9_in := goodIn_r _ [35] (by decide +kernel) (by decide +kernel)
set_option maxRecDepth 20000 in
theorem gX9_slowest_X9_in : GoodIn wsX9_slowest (va_wsS RX9 48 yX9_in wsX9_in) := goodIn_app (goodIn_of _ (by decide +kernel)) ggX9_slowest_X9_in
set_option maxRecDepth 20000 in
theorem ggX9_slowest_X9_holds : GoodIn wsX9_slowest wsX9_holds := goodIn_r _ [62, 63, 64, 65, 66, 67, 68, 69, 70, 71, 72, 73, 74, 75, 76, 77, 78, 79, 80, 81, 82, 83, 84, 85, 86, 87, 88, 89] (by decide +kernel) (by decide +kernel)
set_option maxRecDepth 20000 in
theorem gX9_slowest_X9_holds : GoodIn wsX9_slowest (wsV RX9 125 RX9 yX9_holds wsX9_holds) := goodIn_app (goodIn_of _ (by decide +kernel)) ggX9_slowest_X9_holds
theorem dX9_slowest_0 : decode cX9_slowest 0 = .ok (.aload_n 0, 1) := by decide +kernel
theorem dX9_slowest_1 : decode cX9_slowest 1 = .ok (.aload_n 0, 1) := by decide +kernel
theorem dX9_slowest_2 : decode cX9_slowest 2 = .ok (.iload_n 1, 1) := by decide +kernel
theorem dX9_slowest_3 : decode cX9_slowest 3 = .ok (.invokevirtual 203, 3) := by decide +kernel
theorem dX9_slowest_6 : decode cX9_slowest 6 = .ok (.ifCond .eq 21, 3) := by decide +kernel
theorem dX9_slowest_9 : decode cX9_slowest 9 = .ok (.iload_n 2, 1) := by decide +kernel
theorem dX9_slowest_10 : decode cX9_slowest 10 = .ok (.iconst 0, 1) := by decide +kernel
theorem dX9_slowest_11 : decode cX9_slowest 11 = .ok (.aload_n 0, 1) := by decide +kernel
theorem dX9_slowest_12 : decode cX9_slowest 12 = .ok (.getfield 66, 3) := by decide +kernel
theorem dX9_slowest_15 : decode cX9_slowest 15 = .ok (.iconst 1, 1) := by decide +kernel
theorem dX9_slowest_16 : decode cX9_slowest 16 = .ok (.isub, 1) := by decide +kernel
theorem dX9_slowest_17 : decode cX9_slowest 17 = .ok (.invokestatic 48, 3) := by decide +kernel
theorem dX9_slowest_20 : decode cX9_slowest 20 = .ok (.ifCond .eq 7, 3) := by decide +kernel
theorem dX9_slowest_23 : decode cX9_slowest 23 = .ok (.iconst 0, 1) := by decide +kernel
theorem dX9_slowest_24 : decode cX9_slowest 24 = .ok (.goto 4, 3) := by decide +kernel
theorem dX9_slowest_27 : decode cX9_slowest 27 = .ok (.iconst 1, 1) := by decide +kernel
theorem dX9_slowest_28 : decode cX9_slowest 28 = .ok (.invokevirtual 125, 3) := by decide +kernel
theorem dX9_slowest_31 : decode cX9_slowest 31 = .ok (.ifCond .ne 5, 3) := by decide +kernel
theorem dX9_slowest_34 : decode cX9_slowest 34 = .ok (.iconst 0, 1) := by decide +kernel
theorem dX9_slowest_35 : decode cX9_slowest 35 = .ok (.ireturn, 1) := by decide +kernel
theorem dX9_slowest_36 : decode cX9_slowest 36 = .ok (.aload_n 0, 1) := by decide +kernel
theorem dX9_slowest_37 : decode cX9_slowest 37 = .ok (.getfield 35, 3) := by decide +kernel
theorem dX9_slowest_40 : decode cX9_slowest 40 = .ok (.bipush 100, 2) := by decide +kernel
theorem dX9_slowest_42 : decode cX9_slowest 42 = .ok (.iload_n 1, 1) := by decide +kernel
theorem dX9_slowest_43 : decode cX9_slowest 43 = .ok (.imul, 1) := by decide +kernel
theorem dX9_slowest_44 : decode cX9_slowest 44 = .ok (.iload_n 2, 1) := by decide +kernel
theorem dX9_slowest_45 : decode cX9_slowest 45 = .ok (.iadd, 1) := by decide +kernel
theorem dX9_slowest_46 : decode cX9_slowest 46 = .ok (.iaload, 1) := by decide +kernel
theorem dX9_slowest_47 : decode cX9_slowest 47 = .ok (.istore_n 3, 1) := by decide +kernel
theorem dX9_slowest_48 : decode cX9_slowest 48 = .ok (.iload_n 3, 1) := by decide +kernel
theorem dX9_slowest_49 : decode cX9_slowest 49 = .ok (.bipush 9, 2) := by decide +kernel
theorem dX9_slowest_51 : decode cX9_slowest 51 = .ok (.if_icmp .ne 7, 3) := by decide +kernel
theorem dX9_slowest_54 : decode cX9_slowest 54 = .ok (.iconst (-1), 1) := by decide +kernel
theorem dX9_slowest_55 : decode cX9_slowest 55 = .ok (.goto 4, 3) := by decide +kernel
theorem dX9_slowest_58 : decode cX9_slowest 58 = .ok (.iload_n 3, 1) := by decide +kernel
theorem dX9_slowest_59 : decode cX9_slowest 59 = .ok (.ireturn, 1) := by decide +kernel
set_option maxRecDepth 20000 in
theorem ggX9_fewest_X9_isLedge : GoodIn wsX9_fewest wsX9_isLedge := goodIn_r _ [7, 1, 8, 9, 10, 6, 11, 12, 13, 14, 15, 16, 17, 18, 19, 20, 21, 22, 23, 24, 25, 26, 27, 28, 29, 30, 31, 32, 33, 34, 35, 36, 37, 38, 39, 40, 41, 42, 43, 44, 45, 46, 47, 48, 49, 50, 51, 52, 53, 54, 55, 56, 57, 58, 59, 73, 74, 75, 76, 77, 78, 79, 80, 81, 82, 83, 84, 85, 86, 87, 88, 89, 90, 91, 92, 93, 94, 95, 96, 97, 98] (by decide +kernel) (by decide +kernel)
set_option maxRecDepth 20000 in
theorem gX9_fewest_X9_isLedge : GoodIn wsX9_fewest (wsV RX9 203 RX9 yX9_isLedge wsX9_isLedge) := goodIn_app (goodIn_of _ (by decide +kernel)) ggX9_fewest_X9_isLedge
set_option maxRecDepth 20000 in
theorem ggX9_fewest_X9_in : GoodIn wsX9_fewest wsX9_in := goodIn_r _ [36] (by decide +kernel) (by decide +kernel)
set_option maxRecDepth 20000 in
theorem gX9_fewest_X9_in : GoodIn wsX9_fewest (va_wsS RX9 48 yX9_in wsX9_in) := goodIn_app (goodIn_of _ (by decide +kernel)) ggX9_fewest_X9_in
set_option maxRecDepth 20000 in
theorem ggX9_fewest_X9_holds : GoodIn wsX9_fewest wsX9_holds := goodIn_r _ [63, 64, 73, 74, 75, 76, 77, 78, 79, 80, 81, 82, 83, 84, 85, 86, 87, 88, 89, 90, 91, 92, 93, 94, 95, 96, 97, 98] (by decide +kernel) (by decide +kernel)
set_option maxRecDepth 20000 in
theorem gX9_fewest_X9_holds : GoodIn wsX9_fewest (wsV RX9 125 RX9 yX9_holds wsX9_holds) := goodIn_app (goodIn_of _ (by decide +kernel)) ggX9_fewest_X9_holds
set_option maxRecDepth 20000 in
theorem ggX9_fewest_X9_spread : GoodIn wsX9_fewest wsX9_spread := goodIn_r _ [68, 1, 2, 69, 70, 71, 6, 72, 12, 73, 74, 75, 76, 77, 78, 79, 80, 81, 82, 83, 84, 85, 86, 87, 88, 89, 90, 91, 92, 93, 94, 95, 96, 97, 98] (by decide +kernel) (by decide +kernel)
set_option maxRecDepth 20000 in
theorem gX9_fewest_X9_spread : GoodIn wsX9_fewest (wsV RX9 118 RX9 yX9_spread wsX9_spread) := goodIn_app (goodIn_of _ (by decide +kernel)) ggX9_fewest_X9_spread
theorem dX9_fewest_0 : decode cX9_fewest 0 = .ok (.aload_n 0, 1) := by decide +kernel
theorem dX9_fewest_1 : decode cX9_fewest 1 = .ok (.iload_n 1, 1) := by decide +kernel
theorem dX9_fewest_2 : decode cX9_fewest 2 = .ok (.invokevirtual 203, 3) := by decide +kernel
theorem dX9_fewest_5 : decode cX9_fewest 5 = .ok (.ifCond .eq 21, 3) := by decide +kernel
theorem dX9_fewest_8 : decode cX9_fewest 8 = .ok (.iload_n 2, 1) := by decide +kernel
theorem dX9_fewest_9 : decode cX9_fewest 9 = .ok (.iconst 0, 1) := by decide +kernel
theorem dX9_fewest_10 : decode cX9_fewest 10 = .ok (.aload_n 0, 1) := by decide +kernel
theorem dX9_fewest_11 : decode cX9_fewest 11 = .ok (.getfield 66, 3) := by decide +kernel
theorem dX9_fewest_14 : decode cX9_fewest 14 = .ok (.iconst 1, 1) := by decide +kernel
theorem dX9_fewest_15 : decode cX9_fewest 15 = .ok (.isub, 1) := by decide +kernel
theorem dX9_fewest_16 : decode cX9_fewest 16 = .ok (.invokestatic 48, 3) := by decide +kernel
theorem dX9_fewest_19 : decode cX9_fewest 19 = .ok (.ifCond .eq 7, 3) := by decide +kernel
theorem dX9_fewest_22 : decode cX9_fewest 22 = .ok (.iconst 1, 1) := by decide +kernel
theorem dX9_fewest_23 : decode cX9_fewest 23 = .ok (.goto 4, 3) := by decide +kernel
theorem dX9_fewest_26 : decode cX9_fewest 26 = .ok (.iconst 0, 1) := by decide +kernel
theorem dX9_fewest_27 : decode cX9_fewest 27 = .ok (.istore 5, 2) := by decide +kernel
theorem dX9_fewest_29 : decode cX9_fewest 29 = .ok (.aload_n 0, 1) := by decide +kernel
theorem dX9_fewest_30 : decode cX9_fewest 30 = .ok (.iload 5, 2) := by decide +kernel
theorem dX9_fewest_32 : decode cX9_fewest 32 = .ok (.ifCond .ne 7, 3) := by decide +kernel
theorem dX9_fewest_35 : decode cX9_fewest 35 = .ok (.iconst 1, 1) := by decide +kernel
theorem dX9_fewest_36 : decode cX9_fewest 36 = .ok (.goto 27, 3) := by decide +kernel
theorem dX9_fewest_39 : decode cX9_fewest 39 = .ok (.iload_n 3, 1) := by decide +kernel
theorem dX9_fewest_40 : decode cX9_fewest 40 = .ok (.iconst 0, 1) := by decide +kernel
theorem dX9_fewest_41 : decode cX9_fewest 41 = .ok (.iconst 3, 1) := by decide +kernel
theorem dX9_fewest_42 : decode cX9_fewest 42 = .ok (.invokestatic 48, 3) := by decide +kernel
theorem dX9_fewest_45 : decode cX9_fewest 45 = .ok (.ifCond .eq 13, 3) := by decide +kernel
theorem dX9_fewest_48 : decode cX9_fewest 48 = .ok (.iload 4, 2) := by decide +kernel
theorem dX9_fewest_50 : decode cX9_fewest 50 = .ok (.iconst 0, 1) := by decide +kernel
theorem dX9_fewest_51 : decode cX9_fewest 51 = .ok (.iconst 1, 1) := by decide +kernel
theorem dX9_fewest_52 : decode cX9_fewest 52 = .ok (.invokestatic 48, 3) := by decide +kernel
theorem dX9_fewest_55 : decode cX9_fewest 55 = .ok (.ifCond .ne 7, 3) := by decide +kernel
theorem dX9_fewest_58 : decode cX9_fewest 58 = .ok (.iconst 2, 1) := by decide +kernel
theorem dX9_fewest_59 : decode cX9_fewest 59 = .ok (.goto 4, 3) := by decide +kernel
theorem dX9_fewest_62 : decode cX9_fewest 62 = .ok (.iconst 0, 1) := by decide +kernel
theorem dX9_fewest_63 : decode cX9_fewest 63 = .ok (.invokevirtual 125, 3) := by decide +kernel
theorem dX9_fewest_66 : decode cX9_fewest 66 = .ok (.ifCond .ne 5, 3) := by decide +kernel
theorem dX9_fewest_69 : decode cX9_fewest 69 = .ok (.iconst 0, 1) := by decide +kernel
theorem dX9_fewest_70 : decode cX9_fewest 70 = .ok (.ireturn, 1) := by decide +kernel
theorem dX9_fewest_71 : decode cX9_fewest 71 = .ok (.aload_n 0, 1) := by decide +kernel
theorem dX9_fewest_72 : decode cX9_fewest 72 = .ok (.iload_n 1, 1) := by decide +kernel
theorem dX9_fewest_73 : decode cX9_fewest 73 = .ok (.iload_n 3, 1) := by decide +kernel
theorem dX9_fewest_74 : decode cX9_fewest 74 = .ok (.invokevirtual 118, 3) := by decide +kernel
theorem dX9_fewest_77 : decode cX9_fewest 77 = .ok (.aload_n 0, 1) := by decide +kernel
theorem dX9_fewest_78 : decode cX9_fewest 78 = .ok (.getfield 38, 3) := by decide +kernel
theorem dX9_fewest_81 : decode cX9_fewest 81 = .ok (.iload_n 2, 1) := by decide +kernel
theorem dX9_fewest_82 : decode cX9_fewest 82 = .ok (.iaload, 1) := by decide +kernel
theorem dX9_fewest_83 : decode cX9_fewest 83 = .ok (.ireturn, 1) := by decide +kernel
set_option maxRecDepth 20000 in
theorem ggX9_onlyTold_X9_ownLedge : GoodIn wsX9_onlyTold wsX9_ownLedge := goodIn_r _ [8, 9, 10, 11, 12, 7, 13, 14, 24, 25, 26, 27, 28, 29, 30, 31, 32, 33, 34, 35, 36, 37, 38, 39, 40, 41, 42, 43, 44, 45, 46, 47, 48, 49] (by decide +kernel) (by decide +kernel)
set_option maxRecDepth 20000 in
theorem gX9_onlyTold_X9_ownLedge : GoodIn wsX9_onlyTold (wsV RX9 114 RX9 yX9_ownLedge wsX9_ownLedge) := goodIn_app (goodIn_of _ (by decide +kernel)) ggX9_onlyTold_X9_ownLedge
set_option maxRecDepth 20000 in
theorem ggX9_onlyTold_X9_spread : GoodIn wsX9_onlyTold wsX9_spread := goodIn_r _ [18, 1, 3, 19, 20, 21, 7, 22, 23, 24, 25, 26, 27, 28, 29, 30, 31, 32, 33, 34, 35, 36, 37, 38, 39, 40, 41, 42, 43, 44, 45, 46, 47, 48, 49] (by decide +kernel) (by decide +kernel)
set_option maxRecDepth 20000 in
theorem gX9_onlyTold_X9_spread : GoodIn wsX9_onlyTold (wsV RX9 118 RX9 yX9_spread wsX9_spread) := goodIn_app (goodIn_of _ (by decide +kernel)) ggX9_onlyTold_X9_spread
theorem dX9_onlyTold_0 : decode cX9_onlyTold 0 = .ok (.aload_n 0, 1) := by decide +kernel
theorem dX9_onlyTold_1 : decode cX9_onlyTold 1 = .ok (.aload_n 0, 1) := by decide +kernel
theorem dX9_onlyTold_2 : decode cX9_onlyTold 2 = .ok (.invokevirtual 114, 3) := by decide +kernel
theorem dX9_onlyTold_5 : decode cX9_onlyTold 5 = .ok (.iconst 0, 1) := by decide +kernel
theorem dX9_onlyTold_6 : decode cX9_onlyTold 6 = .ok (.invokevirtual 118, 3) := by decide +kernel
theorem dX9_onlyTold_9 : decode cX9_onlyTold 9 = .ok (.iconst 0, 1) := by decide +kernel
theorem dX9_onlyTold_10 : decode cX9_onlyTold 10 = .ok (.istore_n 2, 1) := by decide +kernel
theorem dX9_onlyTold_11 : decode cX9_onlyTold 11 = .ok (.iload_n 2, 1) := by decide +kernel
theorem dX9_onlyTold_12 : decode cX9_onlyTold 12 = .ok (.aload_n 0, 1) := by decide +kernel
theorem dX9_onlyTold_13 : decode cX9_onlyTold 13 = .ok (.getfield 66, 3) := by decide +kernel
theorem dX9_onlyTold_16 : decode cX9_onlyTold 16 = .ok (.if_icmp .ge 30, 3) := by decide +kernel
theorem dX9_onlyTold_19 : decode cX9_onlyTold 19 = .ok (.aload_n 0, 1) := by decide +kernel
theorem dX9_onlyTold_20 : decode cX9_onlyTold 20 = .ok (.getfield 41, 3) := by decide +kernel
theorem dX9_onlyTold_23 : decode cX9_onlyTold 23 = .ok (.iload_n 2, 1) := by decide +kernel
theorem dX9_onlyTold_24 : decode cX9_onlyTold 24 = .ok (.aload_n 0, 1) := by decide +kernel
theorem dX9_onlyTold_25 : decode cX9_onlyTold 25 = .ok (.getfield 38, 3) := by decide +kernel
theorem dX9_onlyTold_28 : decode cX9_onlyTold 28 = .ok (.iload_n 2, 1) := by decide +kernel
theorem dX9_onlyTold_29 : decode cX9_onlyTold 29 = .ok (.iaload, 1) := by decide +kernel
theorem dX9_onlyTold_30 : decode cX9_onlyTold 30 = .ok (.iconst (-1), 1) := by decide +kernel
theorem dX9_onlyTold_31 : decode cX9_onlyTold 31 = .ok (.if_icmp .eq 7, 3) := by decide +kernel
theorem dX9_onlyTold_34 : decode cX9_onlyTold 34 = .ok (.iconst 1, 1) := by decide +kernel
theorem dX9_onlyTold_35 : decode cX9_onlyTold 35 = .ok (.goto 4, 3) := by decide +kernel
theorem dX9_onlyTold_38 : decode cX9_onlyTold 38 = .ok (.iconst 0, 1) := by decide +kernel
theorem dX9_onlyTold_39 : decode cX9_onlyTold 39 = .ok (.bastore, 1) := by decide +kernel
theorem dX9_onlyTold_40 : decode cX9_onlyTold 40 = .ok (.iinc 2 1, 3) := by decide +kernel
theorem dX9_onlyTold_43 : decode cX9_onlyTold 43 = .ok (.goto (-32), 3) := by decide +kernel
theorem dX9_onlyTold_46 : decode cX9_onlyTold 46 = .ok (.aload_n 0, 1) := by decide +kernel
theorem dX9_onlyTold_47 : decode cX9_onlyTold 47 = .ok (.aload_n 0, 1) := by decide +kernel
theorem dX9_onlyTold_48 : decode cX9_onlyTold 48 = .ok (.invokevirtual 114, 3) := by decide +kernel
theorem dX9_onlyTold_51 : decode cX9_onlyTold 51 = .ok (.iconst 3, 1) := by decide +kernel
theorem dX9_onlyTold_52 : decode cX9_onlyTold 52 = .ok (.invokevirtual 118, 3) := by decide +kernel
theorem dX9_onlyTold_55 : decode cX9_onlyTold 55 = .ok (.iconst 0, 1) := by decide +kernel
theorem dX9_onlyTold_56 : decode cX9_onlyTold 56 = .ok (.istore_n 2, 1) := by decide +kernel
theorem dX9_onlyTold_57 : decode cX9_onlyTold 57 = .ok (.iconst 0, 1) := by decide +kernel
theorem dX9_onlyTold_58 : decode cX9_onlyTold 58 = .ok (.istore_n 3, 1) := by decide +kernel
theorem dX9_onlyTold_59 : decode cX9_onlyTold 59 = .ok (.iload_n 3, 1) := by decide +kernel
theorem dX9_onlyTold_60 : decode cX9_onlyTold 60 = .ok (.aload_n 0, 1) := by decide +kernel
theorem dX9_onlyTold_61 : decode cX9_onlyTold 61 = .ok (.getfield 66, 3) := by decide +kernel
theorem dX9_onlyTold_64 : decode cX9_onlyTold 64 = .ok (.if_icmp .ge 38, 3) := by decide +kernel
theorem dX9_onlyTold_67 : decode cX9_onlyTold 67 = .ok (.aload_n 0, 1) := by decide +kernel
theorem dX9_onlyTold_68 : decode cX9_onlyTold 68 = .ok (.getfield 38, 3) := by decide +kernel
theorem dX9_onlyTold_71 : decode cX9_onlyTold 71 = .ok (.iload_n 3, 1) := by decide +kernel
theorem dX9_onlyTold_72 : decode cX9_onlyTold 72 = .ok (.iaload, 1) := by decide +kernel
theorem dX9_onlyTold_73 : decode cX9_onlyTold 73 = .ok (.iconst (-1), 1) := by decide +kernel
theorem dX9_onlyTold_74 : decode cX9_onlyTold 74 = .ok (.if_icmp .eq 22, 3) := by decide +kernel
theorem dX9_onlyTold_77 : decode cX9_onlyTold 77 = .ok (.aload_n 0, 1) := by decide +kernel
theorem dX9_onlyTold_78 : decode cX9_onlyTold 78 = .ok (.getfield 41, 3) := by decide +kernel
theorem dX9_onlyTold_81 : decode cX9_onlyTold 81 = .ok (.iload_n 3, 1) := by decide +kernel
theorem dX9_onlyTold_82 : decode cX9_onlyTold 82 = .ok (.baload, 1) := by decide +kernel
theorem dX9_onlyTold_83 : decode cX9_onlyTold 83 = .ok (.ifCond .ne 13, 3) := by decide +kernel
theorem dX9_onlyTold_86 : decode cX9_onlyTold 86 = .ok (.iload_n 2, 1) := by decide +kernel
theorem dX9_onlyTold_87 : decode cX9_onlyTold 87 = .ok (.iload_n 1, 1) := by decide +kernel
theorem dX9_onlyTold_88 : decode cX9_onlyTold 88 = .ok (.if_icmp .ne 5, 3) := by decide +kernel
theorem dX9_onlyTold_91 : decode cX9_onlyTold 91 = .ok (.iload_n 3, 1) := by decide +kernel
theorem dX9_onlyTold_92 : decode cX9_onlyTold 92 = .ok (.ireturn, 1) := by decide +kernel
theorem dX9_onlyTold_93 : decode cX9_onlyTold 93 = .ok (.iinc 2 1, 3) := by decide +kernel
theorem dX9_onlyTold_96 : decode cX9_onlyTold 96 = .ok (.iinc 3 1, 3) := by decide +kernel
theorem dX9_onlyTold_99 : decode cX9_onlyTold 99 = .ok (.goto (-40), 3) := by decide +kernel
theorem dX9_onlyTold_102 : decode cX9_onlyTold 102 = .ok (.iconst (-1), 1) := by decide +kernel
theorem dX9_onlyTold_103 : decode cX9_onlyTold 103 = .ok (.ireturn, 1) := by decide +kernel
set_option maxRecDepth 20000 in
theorem ggX9_onlyRunning_X9_holds : GoodIn wsX9_onlyRunning wsX9_holds := goodIn_r _ [5, 6, 78, 79, 80, 81, 82, 83, 84, 85, 86, 87, 88, 89, 90, 91, 92, 93, 94, 95, 96, 97, 98, 99, 100, 101, 102, 103] (by decide +kernel) (by decide +kernel)
set_option maxRecDepth 20000 in
theorem gX9_onlyRunning_X9_holds : GoodIn wsX9_onlyRunning (wsV RX9 125 RX9 yX9_holds wsX9_holds) := goodIn_app (goodIn_of _ (by decide +kernel)) ggX9_onlyRunning_X9_holds
set_option maxRecDepth 20000 in
theorem ggX9_onlyRunning_X9_findReaches : GoodIn wsX9_onlyRunning wsX9_findReaches := goodIn_r _ [10, 11, 12, 13, 14, 15, 16, 17, 18, 4, 19, 20, 21, 22, 23, 24, 25, 26, 27, 28, 29, 30, 31, 32, 33, 34, 35, 36, 37, 38, 39, 40, 41, 42, 43, 44, 45, 46, 47, 48, 49, 50, 51, 52, 53, 54, 55, 56, 57, 58, 59, 78, 79, 80, 81, 82, 83, 84, 85, 86, 87, 88, 89, 90, 91, 92, 93, 94, 95, 96, 97, 98, 99, 100, 101, 102, 103] (by decide +kernel) (by decide +kernel)
set_option maxRecDepth 20000 in
theorem gX9_onlyRunning_X9_findReaches : GoodIn wsX9_onlyRunning (wsV RX9 200 RX9 yX9_findReaches wsX9_findReaches) := goodIn_app (goodIn_of _ (by decide +kernel)) ggX9_onlyRunning_X9_findReaches
set_option maxRecDepth 20000 in
theorem ggX9_onlyRunning_X9_onlyTold : GoodIn wsX9_onlyRunning wsX9_onlyTold := goodIn_r _ [63, 11, 64, 65, 66, 67, 68, 4, 69, 30, 56, 57, 58, 59, 13, 70, 71, 72, 73, 74, 75, 76, 77, 12, 78, 79, 80, 81, 82, 83, 84, 85, 86, 87, 88, 89, 90, 91, 92, 93, 94, 95, 96, 97, 98, 99, 100, 101, 102, 103] (by decide +kernel) (by decide +kernel)
set_option maxRecDepth 20000 in
theorem gX9_onlyRunning_X9_onlyTold : GoodIn wsX9_onlyRunning (wsV RX9 222 RX9 yX9_onlyTold wsX9_onlyTold) := goodIn_app (goodIn_of _ (by decide +kernel)) ggX9_onlyRunning_X9_onlyTold
theorem dX9_onlyRunning_0 : decode cX9_onlyRunning 0 = .ok (.aload_n 0, 1) := by decide +kernel
theorem dX9_onlyRunning_1 : decode cX9_onlyRunning 1 = .ok (.iload_n 1, 1) := by decide +kernel
theorem dX9_onlyRunning_2 : decode cX9_onlyRunning 2 = .ok (.ifCond .ge 7, 3) := by decide +kernel
theorem dX9_onlyRunning_5 : decode cX9_onlyRunning 5 = .ok (.iconst 1, 1) := by decide +kernel
theorem dX9_onlyRunning_6 : decode cX9_onlyRunning 6 = .ok (.goto 4, 3) := by decide +kernel
theorem dX9_onlyRunning_9 : decode cX9_onlyRunning 9 = .ok (.iconst 0, 1) := by decide +kernel
theorem dX9_onlyRunning_10 : decode cX9_onlyRunning 10 = .ok (.invokevirtual 125, 3) := by decide +kernel
theorem dX9_onlyRunning_13 : decode cX9_onlyRunning 13 = .ok (.ifCond .ne 5, 3) := by decide +kernel
theorem dX9_onlyRunning_16 : decode cX9_onlyRunning 16 = .ok (.iconst 0, 1) := by decide +kernel
theorem dX9_onlyRunning_17 : decode cX9_onlyRunning 17 = .ok (.ireturn, 1) := by decide +kernel
theorem dX9_onlyRunning_18 : decode cX9_onlyRunning 18 = .ok (.aload_n 0, 1) := by decide +kernel
theorem dX9_onlyRunning_19 : decode cX9_onlyRunning 19 = .ok (.invokevirtual 200, 3) := by decide +kernel
theorem dX9_onlyRunning_22 : decode cX9_onlyRunning 22 = .ok (.aload_n 0, 1) := by decide +kernel
theorem dX9_onlyRunning_23 : decode cX9_onlyRunning 23 = .ok (.iload_n 1, 1) := by decide +kernel
theorem dX9_onlyRunning_24 : decode cX9_onlyRunning 24 = .ok (.invokevirtual 222, 3) := by decide +kernel
theorem dX9_onlyRunning_27 : decode cX9_onlyRunning 27 = .ok (.ireturn, 1) := by decide +kernel
set_option maxRecDepth 20000 in
theorem ggX9_shareTold_X9_awayFromRunner : GoodIn wsX9_shareTold wsX9_awayFromRunner := goodIn_r _ [6, 1, 7, 8, 9, 10, 5, 11, 12, 13, 14, 15, 16, 17, 18, 19, 20, 21, 22, 23, 24, 25, 26, 27, 28, 29, 30, 31, 32, 33, 34, 35, 36, 37, 38, 39, 40, 41, 42, 43, 44, 45, 46, 47, 48, 49, 50, 51, 52] (by decide +kernel) (by decide +kernel)
set_option maxRecDepth 20000 in
theorem gX9_shareTold_X9_awayFromRunner : GoodIn wsX9_shareTold (wsV RX9 209 RX9 yX9_awayFromRunner wsX9_awayFromRunner) := goodIn_app (goodIn_of _ (by decide +kernel)) ggX9_shareTold_X9_awayFromRunner
theorem dX9_shareTold_0 : decode cX9_shareTold 0 = .ok (.aload_n 0, 1) := by decide +kernel
theorem dX9_shareTold_1 : decode cX9_shareTold 1 = .ok (.getfield 66, 3) := by decide +kernel
theorem dX9_shareTold_4 : decode cX9_shareTold 4 = .ok (.aload_n 0, 1) := by decide +kernel
theorem dX9_shareTold_5 : decode cX9_shareTold 5 = .ok (.invokevirtual 209, 3) := by decide +kernel
theorem dX9_shareTold_8 : decode cX9_shareTold 8 = .ok (.isub, 1) := by decide +kernel
theorem dX9_shareTold_9 : decode cX9_shareTold 9 = .ok (.i2d, 1) := by decide +kernel
theorem dX9_shareTold_10 : decode cX9_shareTold 10 = .ok (.aload_n 0, 1) := by decide +kernel
theorem dX9_shareTold_11 : decode cX9_shareTold 11 = .ok (.getfield 66, 3) := by decide +kernel
theorem dX9_shareTold_14 : decode cX9_shareTold 14 = .ok (.i2d, 1) := by decide +kernel
theorem dX9_shareTold_15 : decode cX9_shareTold 15 = .ok (.ddiv, 1) := by decide +kernel
theorem dX9_shareTold_16 : decode cX9_shareTold 16 = .ok (.dreturn, 1) := by decide +kernel
set_option maxRecDepth 20000 in
theorem ggX9_reachShare_X9_findReaches : GoodIn wsX9_reachShare wsX9_findReaches := goodIn_r _ [6, 7, 8, 9, 10, 11, 12, 13, 14, 5, 15, 16, 17, 18, 19, 20, 21, 22, 23, 24, 25, 26, 27, 28, 29, 30, 31, 32, 33, 34, 35, 36, 37, 38, 39, 40, 41, 42, 43, 44, 45, 46, 47, 48, 49, 50, 51, 52, 53, 54, 55, 77, 78, 79, 80, 81, 82, 83, 84, 85, 86, 87, 88, 89, 90, 91, 92, 93, 94, 95, 96, 97, 98, 99, 100, 101, 102] (by decide +kernel) (by decide +kernel)
set_option maxRecDepth 20000 in
theorem gX9_reachShare_X9_findReaches : GoodIn wsX9_reachShare (wsV RX9 200 RX9 yX9_findReaches wsX9_findReaches) := goodIn_app (goodIn_of _ (by decide +kernel)) ggX9_reachShare_X9_findReaches
set_option maxRecDepth 20000 in
theorem ggX9_reachShare_X9_shareTold : GoodIn wsX9_reachShare wsX9_shareTold := goodIn_r _ [59, 7, 60, 61, 62, 5, 63, 64, 65, 66, 67, 68, 26, 52, 53, 54, 55, 9, 69, 70, 71, 72, 73, 74, 75, 76, 8, 77, 78, 79, 80, 81, 82, 83, 84, 85, 86, 87, 88, 89, 90, 91, 92, 93, 94, 95, 96, 97, 98, 99, 100, 101, 102] (by decide +kernel) (by decide +kernel)
set_option maxRecDepth 20000 in
theorem gX9_reachShare_X9_shareTold : GoodIn wsX9_reachShare (wsV RX9 225 RX9 yX9_shareTold wsX9_shareTold) := goodIn_app (goodIn_of _ (by decide +kernel)) ggX9_reachShare_X9_shareTold
theorem dX9_reachShare_0 : decode cX9_reachShare 0 = .ok (.aload_n 0, 1) := by decide +kernel
theorem dX9_reachShare_1 : decode cX9_reachShare 1 = .ok (.iconst 0, 1) := by decide +kernel
theorem dX9_reachShare_2 : decode cX9_reachShare 2 = .ok (.putfield 44, 3) := by decide +kernel
theorem dX9_reachShare_5 : decode cX9_reachShare 5 = .ok (.aload_n 0, 1) := by decide +kernel
theorem dX9_reachShare_6 : decode cX9_reachShare 6 = .ok (.invokevirtual 200, 3) := by decide +kernel
theorem dX9_reachShare_9 : decode cX9_reachShare 9 = .ok (.aload_n 0, 1) := by decide +kernel
theorem dX9_reachShare_10 : decode cX9_reachShare 10 = .ok (.invokevirtual 225, 3) := by decide +kernel
theorem dX9_reachShare_13 : decode cX9_reachShare 13 = .ok (.dreturn, 1) := by decide +kernel
theorem dX9_bitsOf_0 : decode cX9_bitsOf 0 = .ok (.ldc2_w 229, 3) := by decide +kernel
theorem dX9_bitsOf_3 : decode cX9_bitsOf 3 = .ok (.lstore_n 2, 1) := by decide +kernel
theorem dX9_bitsOf_4 : decode cX9_bitsOf 4 = .ok (.dload_n 0, 1) := by decide +kernel
theorem dX9_bitsOf_5 : decode cX9_bitsOf 5 = .ok (.dstore 4, 2) := by decide +kernel
theorem dX9_bitsOf_7 : decode cX9_bitsOf 7 = .ok (.dload 4, 2) := by decide +kernel
theorem dX9_bitsOf_9 : decode cX9_bitsOf 9 = .ok (.dconst 1, 1) := by decide +kernel
theorem dX9_bitsOf_10 : decode cX9_bitsOf 10 = .ok (.dcmp .g, 1) := by decide +kernel
theorem dX9_bitsOf_11 : decode cX9_bitsOf 11 = .ok (.ifCond .ge 18, 3) := by decide +kernel
theorem dX9_bitsOf_14 : decode cX9_bitsOf 14 = .ok (.dload 4, 2) := by decide +kernel
theorem dX9_bitsOf_16 : decode cX9_bitsOf 16 = .ok (.ldc2_w 231, 3) := by decide +kernel
theorem dX9_bitsOf_19 : decode cX9_bitsOf 19 = .ok (.dmul, 1) := by decide +kernel
theorem dX9_bitsOf_20 : decode cX9_bitsOf 20 = .ok (.dstore 4, 2) := by decide +kernel
theorem dX9_bitsOf_22 : decode cX9_bitsOf 22 = .ok (.lload_n 2, 1) := by decide +kernel
theorem dX9_bitsOf_23 : decode cX9_bitsOf 23 = .ok (.lconst 1, 1) := by decide +kernel
theorem dX9_bitsOf_24 : decode cX9_bitsOf 24 = .ok (.lsub, 1) := by decide +kernel
theorem dX9_bitsOf_25 : decode cX9_bitsOf 25 = .ok (.lstore_n 2, 1) := by decide +kernel
theorem dX9_bitsOf_26 : decode cX9_bitsOf 26 = .ok (.goto (-19), 3) := by decide +kernel
theorem dX9_bitsOf_29 : decode cX9_bitsOf 29 = .ok (.lload_n 2, 1) := by decide +kernel
theorem dX9_bitsOf_30 : decode cX9_bitsOf 30 = .ok (.ldc2_w 233, 3) := by decide +kernel
theorem dX9_bitsOf_33 : decode cX9_bitsOf 33 = .ok (.lmul, 1) := by decide +kernel
theorem dX9_bitsOf_34 : decode cX9_bitsOf 34 = .ok (.dload 4, 2) := by decide +kernel
theorem dX9_bitsOf_36 : decode cX9_bitsOf 36 = .ok (.dconst 1, 1) := by decide +kernel
theorem dX9_bitsOf_37 : decode cX9_bitsOf 37 = .ok (.dsub, 1) := by decide +kernel
theorem dX9_bitsOf_38 : decode cX9_bitsOf 38 = .ok (.ldc2_w 235, 3) := by decide +kernel
theorem dX9_bitsOf_41 : decode cX9_bitsOf 41 = .ok (.dmul, 1) := by decide +kernel
theorem dX9_bitsOf_42 : decode cX9_bitsOf 42 = .ok (.d2l, 1) := by decide +kernel
theorem dX9_bitsOf_43 : decode cX9_bitsOf 43 = .ok (.ladd, 1) := by decide +kernel
theorem dX9_bitsOf_44 : decode cX9_bitsOf 44 = .ok (.lreturn, 1) := by decide +kernel
theorem dX9_mix_0 : decode cX9_mix 0 = .ok (.aload_n 0, 1) := by decide +kernel
theorem dX9_mix_1 : decode cX9_mix 1 = .ok (.ldc2_w 237, 3) := by decide +kernel
theorem dX9_mix_4 : decode cX9_mix 4 = .ok (.aload_n 0, 1) := by decide +kernel
theorem dX9_mix_5 : decode cX9_mix 5 = .ok (.getfield 239, 3) := by decide +kernel
theorem dX9_mix_8 : decode cX9_mix 8 = .ok (.lmul, 1) := by decide +kernel
theorem dX9_mix_9 : decode cX9_mix 9 = .ok (.lload_n 1, 1) := by decide +kernel
theorem dX9_mix_10 : decode cX9_mix 10 = .ok (.ladd, 1) := by decide +kernel
theorem dX9_mix_11 : decode cX9_mix 11 = .ok (.putfield 239, 3) := by decide +kernel
theorem dX9_mix_14 : decode cX9_mix 14 = .ok (.return_, 1) := by decide +kernel
set_option maxRecDepth 20000 in
theorem ggX9_mixLedges_X9_ledgeTold : GoodIn wsX9_mixLedges wsX9_ledgeTold := goodIn_r _ [7, 8, 9, 10, 11, 12, 6, 13, 1, 14, 15, 16, 17, 18, 39, 40, 41, 42, 43, 44, 45, 46, 47, 48, 49, 50, 51, 52, 53, 54, 55, 56, 57, 58, 59, 60, 61, 62, 63, 64] (by decide +kernel) (by decide +kernel)
set_option maxRecDepth 20000 in
theorem gX9_mixLedges_X9_ledgeTold : GoodIn wsX9_mixLedges (wsV RX9 206 RX9 yX9_ledgeTold wsX9_ledgeTold) := goodIn_app (goodIn_of _ (by decide +kernel)) ggX9_mixLedges_X9_ledgeTold
set_option maxRecDepth 20000 in
theorem ggX9_mixLedges_X9_mix : GoodIn wsX9_mixLedges wsX9_mix := goodIn_r _ [22, 23, 24, 39, 40, 41, 42, 43, 44, 45, 46, 47, 48, 49, 50, 51, 52, 53, 54, 55, 56, 57, 58, 59, 60, 61, 62, 63, 64] (by decide +kernel) (by decide +kernel)
set_option maxRecDepth 20000 in
theorem gX9_mixLedges_X9_mix : GoodIn wsX9_mixLedges (wsV RX9 243 RX9 yX9_mix wsX9_mix) := goodIn_app (goodIn_of _ (by decide +kernel)) ggX9_mixLedges_X9_mix
set_option maxRecDepth 20000 in
theorem ggX9_mixLedges_X9_ownLedge : GoodIn wsX9_mixLedges wsX9_ownLedge := goodIn_r _ [28, 29, 30, 31, 32, 6, 33, 34, 39, 40, 41, 42, 43, 44, 45, 46, 47, 48, 49, 50, 51, 52, 53, 54, 55, 56, 57, 58, 59, 60, 61, 62, 63, 64] (by decide +kernel) (by decide +kernel)
set_option maxRecDepth 20000 in
theorem gX9_mixLedges_X9_ownLedge : GoodIn wsX9_mixLedges (wsV RX9 114 RX9 yX9_ownLedge wsX9_ownLedge) := goodIn_app (goodIn_of _ (by decide +kernel)) ggX9_mixLedges_X9_ownLedge
set_option maxRecDepth 20000 in
theorem ggX9_mixLedges_X9_spread : GoodIn wsX9_mixLedges wsX9_spread := goodIn_r _ [38, 1, 2, 14, 15, 16, 6, 17, 18, 39, 40, 41, 42, 43, 44, 45, 46, 47, 48, 49, 50, 51, 52, 53, 54, 55, 56, 57, 58, 59, 60, 61, 62, 63, 64] (by decide +kernel) (by decide +kernel)
set_option maxRecDepth 20000 in
theorem gX9_mixLedges_X9_spread : GoodIn wsX9_mixLedges (wsV RX9 118 RX9 yX9_spread wsX9_spread) := goodIn_app (goodIn_of _ (by decide +kernel)) ggX9_mixLedges_X9_spread
theorem dX9_mixLedges_0 : decode cX9_mixLedges 0 = .ok (.iconst 0, 1) := by decide +kernel
theorem dX9_mixLedges_1 : decode cX9_mixLedges 1 = .ok (.istore_n 1, 1) := by decide +kernel
theorem dX9_mixLedges_2 : decode cX9_mixLedges 2 = .ok (.iload_n 1, 1) := by decide +kernel
theorem dX9_mixLedges_3 : decode cX9_mixLedges 3 = .ok (.aload_n 0, 1) := by decide +kernel
theorem dX9_mixLedges_4 : decode cX9_mixLedges 4 = .ok (.getfield 66, 3) := by decide +kernel
theorem dX9_mixLedges_7 : decode cX9_mixLedges 7 = .ok (.if_icmp .ge 65, 3) := by decide +kernel
theorem dX9_mixLedges_10 : decode cX9_mixLedges 10 = .ok (.iconst 0, 1) := by decide +kernel
theorem dX9_mixLedges_11 : decode cX9_mixLedges 11 = .ok (.istore_n 2, 1) := by decide +kernel
theorem dX9_mixLedges_12 : decode cX9_mixLedges 12 = .ok (.iload_n 2, 1) := by decide +kernel
theorem dX9_mixLedges_13 : decode cX9_mixLedges 13 = .ok (.bipush 6, 2) := by decide +kernel
theorem dX9_mixLedges_15 : decode cX9_mixLedges 15 = .ok (.if_icmp .ge 20, 3) := by decide +kernel
theorem dX9_mixLedges_18 : decode cX9_mixLedges 18 = .ok (.aload_n 0, 1) := by decide +kernel
theorem dX9_mixLedges_19 : decode cX9_mixLedges 19 = .ok (.aload_n 0, 1) := by decide +kernel
theorem dX9_mixLedges_20 : decode cX9_mixLedges 20 = .ok (.iload_n 1, 1) := by decide +kernel
theorem dX9_mixLedges_21 : decode cX9_mixLedges 21 = .ok (.iload_n 2, 1) := by decide +kernel
theorem dX9_mixLedges_22 : decode cX9_mixLedges 22 = .ok (.invokevirtual 206, 3) := by decide +kernel
theorem dX9_mixLedges_25 : decode cX9_mixLedges 25 = .ok (.i2l, 1) := by decide +kernel
theorem dX9_mixLedges_26 : decode cX9_mixLedges 26 = .ok (.invokevirtual 243, 3) := by decide +kernel
theorem dX9_mixLedges_29 : decode cX9_mixLedges 29 = .ok (.iinc 2 1, 3) := by decide +kernel
theorem dX9_mixLedges_32 : decode cX9_mixLedges 32 = .ok (.goto (-20), 3) := by decide +kernel
theorem dX9_mixLedges_35 : decode cX9_mixLedges 35 = .ok (.aload_n 0, 1) := by decide +kernel
theorem dX9_mixLedges_36 : decode cX9_mixLedges 36 = .ok (.aload_n 0, 1) := by decide +kernel
theorem dX9_mixLedges_37 : decode cX9_mixLedges 37 = .ok (.invokevirtual 114, 3) := by decide +kernel
theorem dX9_mixLedges_40 : decode cX9_mixLedges 40 = .ok (.iconst 3, 1) := by decide +kernel
theorem dX9_mixLedges_41 : decode cX9_mixLedges 41 = .ok (.invokevirtual 118, 3) := by decide +kernel
theorem dX9_mixLedges_44 : decode cX9_mixLedges 44 = .ok (.aload_n 0, 1) := by decide +kernel
theorem dX9_mixLedges_45 : decode cX9_mixLedges 45 = .ok (.aload_n 0, 1) := by decide +kernel
theorem dX9_mixLedges_46 : decode cX9_mixLedges 46 = .ok (.getfield 38, 3) := by decide +kernel
theorem dX9_mixLedges_49 : decode cX9_mixLedges 49 = .ok (.iload_n 1, 1) := by decide +kernel
theorem dX9_mixLedges_50 : decode cX9_mixLedges 50 = .ok (.iaload, 1) := by decide +kernel
theorem dX9_mixLedges_51 : decode cX9_mixLedges 51 = .ok (.i2l, 1) := by decide +kernel
theorem dX9_mixLedges_52 : decode cX9_mixLedges 52 = .ok (.invokevirtual 243, 3) := by decide +kernel
theorem dX9_mixLedges_55 : decode cX9_mixLedges 55 = .ok (.aload_n 0, 1) := by decide +kernel
theorem dX9_mixLedges_56 : decode cX9_mixLedges 56 = .ok (.aload_n 0, 1) := by decide +kernel
theorem dX9_mixLedges_57 : decode cX9_mixLedges 57 = .ok (.getfield 38, 3) := by decide +kernel
theorem dX9_mixLedges_60 : decode cX9_mixLedges 60 = .ok (.iload_n 1, 1) := by decide +kernel
theorem dX9_mixLedges_61 : decode cX9_mixLedges 61 = .ok (.iaload, 1) := by decide +kernel
theorem dX9_mixLedges_62 : decode cX9_mixLedges 62 = .ok (.i2l, 1) := by decide +kernel
theorem dX9_mixLedges_63 : decode cX9_mixLedges 63 = .ok (.invokevirtual 243, 3) := by decide +kernel
theorem dX9_mixLedges_66 : decode cX9_mixLedges 66 = .ok (.iinc 1 1, 3) := by decide +kernel
theorem dX9_mixLedges_69 : decode cX9_mixLedges 69 = .ok (.goto (-67), 3) := by decide +kernel
theorem dX9_mixLedges_72 : decode cX9_mixLedges 72 = .ok (.return_, 1) := by decide +kernel
set_option maxRecDepth 20000 in
theorem ggX9_mixLeaps_X9_leapTold : GoodIn wsX9_mixLeaps wsX9_leapTold := goodIn_r _ [6, 7, 8, 9, 10, 11, 12, 13, 14, 5, 15, 1, 16, 17, 18, 19, 20, 21, 22, 23, 24, 25, 26, 27, 28, 29, 30, 31, 32, 33, 34, 35, 36, 37, 38, 39, 40, 41, 48, 49, 50, 51, 52, 53, 54, 55, 56, 57, 58, 59, 60, 61, 62, 63, 64, 65, 66, 67, 68, 69, 70, 71, 72, 73] (by decide +kernel) (by decide +kernel)
set_option maxRecDepth 20000 in
theorem gX9_mixLeaps_X9_leapTold : GoodIn wsX9_mixLeaps (wsV RX9 218 RX9 yX9_leapTold wsX9_leapTold) := goodIn_app (goodIn_of _ (by decide +kernel)) ggX9_mixLeaps_X9_leapTold
set_option maxRecDepth 20000 in
theorem ggX9_mixLeaps_X9_mix : GoodIn wsX9_mixLeaps wsX9_mix := goodIn_r _ [45, 46, 47, 48, 49, 50, 51, 52, 53, 54, 55, 56, 57, 58, 59, 60, 61, 62, 63, 64, 65, 66, 67, 68, 69, 70, 71, 72, 73] (by decide +kernel) (by decide +kernel)
set_option maxRecDepth 20000 in
theorem gX9_mixLeaps_X9_mix : GoodIn wsX9_mixLeaps (wsV RX9 243 RX9 yX9_mix wsX9_mix) := goodIn_app (goodIn_of _ (by decide +kernel)) ggX9_mixLeaps_X9_mix
theorem dX9_mixLeaps_0 : decode cX9_mixLeaps 0 = .ok (.iconst 0, 1) := by decide +kernel
theorem dX9_mixLeaps_1 : decode cX9_mixLeaps 1 = .ok (.istore_n 1, 1) := by decide +kernel
theorem dX9_mixLeaps_2 : decode cX9_mixLeaps 2 = .ok (.iload_n 1, 1) := by decide +kernel
theorem dX9_mixLeaps_3 : decode cX9_mixLeaps 3 = .ok (.bipush 20, 2) := by decide +kernel
theorem dX9_mixLeaps_5 : decode cX9_mixLeaps 5 = .ok (.if_icmp .ge 51, 3) := by decide +kernel
theorem dX9_mixLeaps_8 : decode cX9_mixLeaps 8 = .ok (.aload_n 0, 1) := by decide +kernel
theorem dX9_mixLeaps_9 : decode cX9_mixLeaps 9 = .ok (.aload_n 0, 1) := by decide +kernel
theorem dX9_mixLeaps_10 : decode cX9_mixLeaps 10 = .ok (.aload_n 0, 1) := by decide +kernel
theorem dX9_mixLeaps_11 : decode cX9_mixLeaps 11 = .ok (.getfield 7, 3) := by decide +kernel
theorem dX9_mixLeaps_14 : decode cX9_mixLeaps 14 = .ok (.bipush 23, 2) := by decide +kernel
theorem dX9_mixLeaps_16 : decode cX9_mixLeaps 16 = .ok (.iaload, 1) := by decide +kernel
theorem dX9_mixLeaps_17 : decode cX9_mixLeaps 17 = .ok (.aload_n 0, 1) := by decide +kernel
theorem dX9_mixLeaps_18 : decode cX9_mixLeaps 18 = .ok (.getfield 7, 3) := by decide +kernel
theorem dX9_mixLeaps_21 : decode cX9_mixLeaps 21 = .ok (.bipush 24, 2) := by decide +kernel
theorem dX9_mixLeaps_23 : decode cX9_mixLeaps 23 = .ok (.iaload, 1) := by decide +kernel
theorem dX9_mixLeaps_24 : decode cX9_mixLeaps 24 = .ok (.iload_n 1, 1) := by decide +kernel
theorem dX9_mixLeaps_25 : decode cX9_mixLeaps 25 = .ok (.bipush 10, 2) := by decide +kernel
theorem dX9_mixLeaps_27 : decode cX9_mixLeaps 27 = .ok (.if_icmp .ge 7, 3) := by decide +kernel
theorem dX9_mixLeaps_30 : decode cX9_mixLeaps 30 = .ok (.iconst 1, 1) := by decide +kernel
theorem dX9_mixLeaps_31 : decode cX9_mixLeaps 31 = .ok (.goto 4, 3) := by decide +kernel
theorem dX9_mixLeaps_34 : decode cX9_mixLeaps 34 = .ok (.iconst (-1), 1) := by decide +kernel
theorem dX9_mixLeaps_35 : decode cX9_mixLeaps 35 = .ok (.iload_n 1, 1) := by decide +kernel
theorem dX9_mixLeaps_36 : decode cX9_mixLeaps 36 = .ok (.iconst 5, 1) := by decide +kernel
theorem dX9_mixLeaps_37 : decode cX9_mixLeaps 37 = .ok (.idiv, 1) := by decide +kernel
theorem dX9_mixLeaps_38 : decode cX9_mixLeaps 38 = .ok (.iconst 2, 1) := by decide +kernel
theorem dX9_mixLeaps_39 : decode cX9_mixLeaps 39 = .ok (.irem, 1) := by decide +kernel
theorem dX9_mixLeaps_40 : decode cX9_mixLeaps 40 = .ok (.iload_n 1, 1) := by decide +kernel
theorem dX9_mixLeaps_41 : decode cX9_mixLeaps 41 = .ok (.iconst 5, 1) := by decide +kernel
theorem dX9_mixLeaps_42 : decode cX9_mixLeaps 42 = .ok (.irem, 1) := by decide +kernel
theorem dX9_mixLeaps_43 : decode cX9_mixLeaps 43 = .ok (.invokevirtual 218, 3) := by decide +kernel
theorem dX9_mixLeaps_46 : decode cX9_mixLeaps 46 = .ok (.i2l, 1) := by decide +kernel
theorem dX9_mixLeaps_47 : decode cX9_mixLeaps 47 = .ok (.invokevirtual 243, 3) := by decide +kernel
theorem dX9_mixLeaps_50 : decode cX9_mixLeaps 50 = .ok (.iinc 1 1, 3) := by decide +kernel
theorem dX9_mixLeaps_53 : decode cX9_mixLeaps 53 = .ok (.goto (-51), 3) := by decide +kernel
theorem dX9_mixLeaps_56 : decode cX9_mixLeaps 56 = .ok (.return_, 1) := by decide +kernel
set_option maxRecDepth 20000 in
theorem ggX9_digest_X9_findReaches : GoodIn wsX9_digest wsX9_findReaches := goodIn_r _ [12, 13, 14, 15, 16, 17, 18, 19, 20, 11, 21, 22, 23, 24, 25, 26, 27, 28, 29, 30, 31, 4, 32, 33, 34, 35, 36, 37, 38, 39, 40, 41, 42, 43, 44, 45, 46, 47, 48, 49, 50, 51, 52, 53, 54, 55, 56, 57, 58, 59, 60, 136, 137, 138, 139, 140, 141, 142, 143, 144, 145, 146, 147, 148, 149, 150, 151, 152, 153, 154, 155, 156, 157, 158, 159, 160, 161] (by decide +kernel) (by decide +kernel)
set_option maxRecDepth 20000 in
theorem gX9_digest_X9_findReaches : GoodIn wsX9_digest (wsV RX9 200 RX9 yX9_findReaches wsX9_findReaches) := goodIn_app (goodIn_of _ (by decide +kernel)) ggX9_digest_X9_findReaches
set_option maxRecDepth 20000 in
theorem ggX9_digest_X9_countTold : GoodIn wsX9_digest wsX9_countTold := goodIn_r _ [64, 13, 4, 65, 66, 67, 68, 11, 69, 70, 71, 72, 73, 57, 58, 59, 60, 15, 74, 75, 76, 77, 78, 79, 80, 81, 82, 83, 84, 85, 86, 14, 136, 137, 138, 139, 140, 141, 142, 143, 144, 145, 146, 147, 148, 149, 150, 151, 152, 153, 154, 155, 156, 157, 158, 159, 160, 161] (by decide +kernel) (by decide +kernel)
set_option maxRecDepth 20000 in
theorem gX9_digest_X9_countTold : GoodIn wsX9_digest (wsV RX9 212 RX9 yX9_countTold wsX9_countTold) := goodIn_app (goodIn_of _ (by decide +kernel)) ggX9_digest_X9_countTold
set_option maxRecDepth 20000 in
theorem ggX9_digest_X9_mix : GoodIn wsX9_digest wsX9_mix := goodIn_r _ [90, 91, 3, 136, 137, 138, 139, 140, 141, 142, 143, 144, 145, 146, 147, 148, 149, 150, 151, 152, 153, 154, 155, 156, 157, 158, 159, 160, 161] (by decide +kernel) (by decide +kernel)
set_option maxRecDepth 20000 in
theorem gX9_digest_X9_mix : GoodIn wsX9_digest (wsV RX9 243 RX9 yX9_mix wsX9_mix) := goodIn_app (goodIn_of _ (by decide +kernel)) ggX9_digest_X9_mix
set_option maxRecDepth 20000 in
theorem ggX9_digest_X9_cellTold : GoodIn wsX9_digest wsX9_cellTold := goodIn_r _ [95, 28, 29, 30, 11, 31, 4, 32, 33, 34, 35, 36, 37, 24, 25, 26, 27, 57, 58, 59, 60, 15, 45, 46, 47, 48, 136, 137, 138, 139, 140, 141, 142, 143, 144, 145, 146, 147, 148, 149, 150, 151, 152, 153, 154, 155, 156, 157, 158, 159, 160, 161] (by decide +kernel) (by decide +kernel)
set_option maxRecDepth 20000 in
theorem gX9_digest_X9_cellTold : GoodIn wsX9_digest (wsV RX9 193 RX9 yX9_cellTold wsX9_cellTold) := goodIn_app (goodIn_of _ (by decide +kernel)) ggX9_digest_X9_cellTold
set_option maxRecDepth 20000 in
theorem ggX9_digest_X9_mixLedges : GoodIn wsX9_digest wsX9_mixLedges := goodIn_r _ [99, 13, 78, 100, 101, 102, 11, 103, 22, 23, 104, 105, 106, 107, 83, 84, 85, 86, 14, 87, 88, 89, 90, 91, 3, 70, 71, 72, 73, 4, 57, 58, 59, 60, 15, 79, 80, 81, 82, 136, 137, 138, 139, 140, 141, 142, 143, 144, 145, 146, 147, 148, 149, 150, 151, 152, 153, 154, 155, 156, 157, 158, 159, 160, 161] (by decide +kernel) (by decide +kernel)
set_option maxRecDepth 20000 in
theorem gX9_digest_X9_mixLedges : GoodIn wsX9_digest (wsV RX9 249 RX9 yX9_mixLedges wsX9_mixLedges) := goodIn_app (goodIn_of _ (by decide +kernel)) ggX9_digest_X9_mixLedges
set_option maxRecDepth 20000 in
theorem ggX9_digest_X9_mixLeaps : GoodIn wsX9_digest wsX9_mixLeaps := goodIn_r _ [111, 4, 112, 113, 114, 11, 115, 16, 17, 43, 42, 44, 38, 39, 40, 41, 45, 46, 47, 48, 24, 25, 26, 27, 28, 29, 30, 31, 32, 33, 34, 35, 36, 37, 49, 50, 51, 52, 53, 54, 55, 56, 87, 88, 89, 90, 91, 3, 136, 137, 138, 139, 140, 141, 142, 143, 144, 145, 146, 147, 148, 149, 150, 151, 152, 153, 154, 155, 156, 157, 158, 159, 160, 161] (by decide +kernel) (by decide +kernel)
set_option maxRecDepth 20000 in
theorem gX9_digest_X9_mixLeaps : GoodIn wsX9_digest (wsV RX9 252 RX9 yX9_mixLeaps wsX9_mixLeaps) := goodIn_app (goodIn_of _ (by decide +kernel)) ggX9_digest_X9_mixLeaps
set_option maxRecDepth 20000 in
theorem ggX9_digest_X9_heightBehind : GoodIn wsX9_digest wsX9_heightBehind := goodIn_r _ [119, 4, 136, 137, 138, 139, 140, 141, 142, 143, 144, 145, 146, 147, 148, 149, 150, 151, 152, 153, 154, 155, 156, 157, 158, 159, 160, 161] (by decide +kernel) (by decide +kernel)
set_option maxRecDepth 20000 in
theorem gX9_digest_X9_heightBehind : GoodIn wsX9_digest (wsV RX9 215 RX9 yX9_heightBehind wsX9_heightBehind) := goodIn_app (goodIn_of _ (by decide +kernel)) ggX9_digest_X9_heightBehind
set_option maxRecDepth 20000 in
theorem ggX9_digest_X9_onlyTold : GoodIn wsX9_digest wsX9_onlyTold := goodIn_r _ [123, 13, 124, 78, 70, 71, 72, 11, 73, 4, 57, 58, 59, 60, 15, 79, 80, 81, 82, 83, 84, 85, 86, 14, 136, 137, 138, 139, 140, 141, 142, 143, 144, 145, 146, 147, 148, 149, 150, 151, 152, 153, 154, 155, 156, 157, 158, 159, 160, 161] (by decide +kernel) (by decide +kernel)
set_option maxRecDepth 20000 in
theorem gX9_digest_X9_onlyTold : GoodIn wsX9_digest (wsV RX9 222 RX9 yX9_onlyTold wsX9_onlyTold) := goodIn_app (goodIn_of _ (by decide +kernel)) ggX9_digest_X9_onlyTold
set_option maxRecDepth 20000 in
theorem ggX9_digest_X9_shareTold : GoodIn wsX9_digest wsX9_shareTold := goodIn_r _ [128, 13, 74, 75, 76, 11, 77, 78, 70, 71, 72, 73, 4, 57, 58, 59, 60, 15, 79, 80, 81, 82, 83, 84, 85, 86, 14, 136, 137, 138, 139, 140, 141, 142, 143, 144, 145, 146, 147, 148, 149, 150, 151, 152, 153, 154, 155, 156, 157, 158, 159, 160, 161] (by decide +kernel) (by decide +kernel)
set_option maxRecDepth 20000 in
theorem gX9_digest_X9_shareTold : GoodIn wsX9_digest (wsV RX9 225 RX9 yX9_shareTold wsX9_shareTold) := goodIn_app (goodIn_of _ (by decide +kernel)) ggX9_digest_X9_shareTold
set_option maxRecDepth 20000 in
theorem ggX9_digest_X9_bitsOf : GoodIn wsX9_digest wsX9_bitsOf := goodIn_r _ [131, 132, 133, 134, 135] (by decide +kernel) (by decide +kernel)
set_option maxRecDepth 20000 in
theorem gX9_digest_X9_bitsOf : GoodIn wsX9_digest (va_wsS RX9 255 yX9_bitsOf wsX9_bitsOf) := goodIn_app (goodIn_of _ (by decide +kernel)) ggX9_digest_X9_bitsOf
theorem dX9_digest_0 : decode cX9_digest 0 = .ok (.aload_n 0, 1) := by decide +kernel
theorem dX9_digest_1 : decode cX9_digest 1 = .ok (.iconst 0, 1) := by decide +kernel
theorem dX9_digest_2 : decode cX9_digest 2 = .ok (.putfield 44, 3) := by decide +kernel
theorem dX9_digest_5 : decode cX9_digest 5 = .ok (.aload_n 0, 1) := by decide +kernel
theorem dX9_digest_6 : decode cX9_digest 6 = .ok (.invokevirtual 200, 3) := by decide +kernel
theorem dX9_digest_9 : decode cX9_digest 9 = .ok (.aload_n 0, 1) := by decide +kernel
theorem dX9_digest_10 : decode cX9_digest 10 = .ok (.ldc2_w 247, 3) := by decide +kernel
theorem dX9_digest_13 : decode cX9_digest 13 = .ok (.putfield 239, 3) := by decide +kernel
theorem dX9_digest_16 : decode cX9_digest 16 = .ok (.iconst 0, 1) := by decide +kernel
theorem dX9_digest_17 : decode cX9_digest 17 = .ok (.istore_n 1, 1) := by decide +kernel
theorem dX9_digest_18 : decode cX9_digest 18 = .ok (.iload_n 1, 1) := by decide +kernel
theorem dX9_digest_19 : decode cX9_digest 19 = .ok (.bipush 10, 2) := by decide +kernel
theorem dX9_digest_21 : decode cX9_digest 21 = .ok (.if_icmp .ge 19, 3) := by decide +kernel
theorem dX9_digest_24 : decode cX9_digest 24 = .ok (.aload_n 0, 1) := by decide +kernel
theorem dX9_digest_25 : decode cX9_digest 25 = .ok (.aload_n 0, 1) := by decide +kernel
theorem dX9_digest_26 : decode cX9_digest 26 = .ok (.iload_n 1, 1) := by decide +kernel
theorem dX9_digest_27 : decode cX9_digest 27 = .ok (.invokevirtual 212, 3) := by decide +kernel
theorem dX9_digest_30 : decode cX9_digest 30 = .ok (.i2l, 1) := by decide +kernel
theorem dX9_digest_31 : decode cX9_digest 31 = .ok (.invokevirtual 243, 3) := by decide +kernel
theorem dX9_digest_34 : decode cX9_digest 34 = .ok (.iinc 1 1, 3) := by decide +kernel
theorem dX9_digest_37 : decode cX9_digest 37 = .ok (.goto (-19), 3) := by decide +kernel
theorem dX9_digest_40 : decode cX9_digest 40 = .ok (.iconst 0, 1) := by decide +kernel
theorem dX9_digest_41 : decode cX9_digest 41 = .ok (.istore_n 1, 1) := by decide +kernel
theorem dX9_digest_42 : decode cX9_digest 42 = .ok (.iload_n 1, 1) := by decide +kernel
theorem dX9_digest_43 : decode cX9_digest 43 = .ok (.iconst 3, 1) := by decide +kernel
theorem dX9_digest_44 : decode cX9_digest 44 = .ok (.if_icmp .ge 23, 3) := by decide +kernel
theorem dX9_digest_47 : decode cX9_digest 47 = .ok (.aload_n 0, 1) := by decide +kernel
theorem dX9_digest_48 : decode cX9_digest 48 = .ok (.aload_n 0, 1) := by decide +kernel
theorem dX9_digest_49 : decode cX9_digest 49 = .ok (.getfield 7, 3) := by decide +kernel
theorem dX9_digest_52 : decode cX9_digest 52 = .ok (.bipush 20, 2) := by decide +kernel
theorem dX9_digest_54 : decode cX9_digest 54 = .ok (.iload_n 1, 1) := by decide +kernel
theorem dX9_digest_55 : decode cX9_digest 55 = .ok (.iadd, 1) := by decide +kernel
theorem dX9_digest_56 : decode cX9_digest 56 = .ok (.iaload, 1) := by decide +kernel
theorem dX9_digest_57 : decode cX9_digest 57 = .ok (.i2l, 1) := by decide +kernel
theorem dX9_digest_58 : decode cX9_digest 58 = .ok (.invokevirtual 243, 3) := by decide +kernel
theorem dX9_digest_61 : decode cX9_digest 61 = .ok (.iinc 1 1, 3) := by decide +kernel
theorem dX9_digest_64 : decode cX9_digest 64 = .ok (.goto (-22), 3) := by decide +kernel
theorem dX9_digest_67 : decode cX9_digest 67 = .ok (.iconst 0, 1) := by decide +kernel
theorem dX9_digest_68 : decode cX9_digest 68 = .ok (.istore_n 1, 1) := by decide +kernel
theorem dX9_digest_69 : decode cX9_digest 69 = .ok (.iload_n 1, 1) := by decide +kernel
theorem dX9_digest_70 : decode cX9_digest 70 = .ok (.sipush 600, 3) := by decide +kernel
theorem dX9_digest_73 : decode cX9_digest 73 = .ok (.if_icmp .ge 33, 3) := by decide +kernel
theorem dX9_digest_76 : decode cX9_digest 76 = .ok (.aload_n 0, 1) := by decide +kernel
theorem dX9_digest_77 : decode cX9_digest 77 = .ok (.aload_n 0, 1) := by decide +kernel
theorem dX9_digest_78 : decode cX9_digest 78 = .ok (.iload_n 1, 1) := by decide +kernel
theorem dX9_digest_79 : decode cX9_digest 79 = .ok (.iconst 3, 1) := by decide +kernel
theorem dX9_digest_80 : decode cX9_digest 80 = .ok (.idiv, 1) := by decide +kernel
theorem dX9_digest_81 : decode cX9_digest 81 = .ok (.bipush 20, 2) := by decide +kernel
theorem dX9_digest_83 : decode cX9_digest 83 = .ok (.irem, 1) := by decide +kernel
theorem dX9_digest_84 : decode cX9_digest 84 = .ok (.iload_n 1, 1) := by decide +kernel
theorem dX9_digest_85 : decode cX9_digest 85 = .ok (.iconst 3, 1) := by decide +kernel
theorem dX9_digest_86 : decode cX9_digest 86 = .ok (.idiv, 1) := by decide +kernel
theorem dX9_digest_87 : decode cX9_digest 87 = .ok (.bipush 20, 2) := by decide +kernel
theorem dX9_digest_89 : decode cX9_digest 89 = .ok (.idiv, 1) := by decide +kernel
theorem dX9_digest_90 : decode cX9_digest 90 = .ok (.iload_n 1, 1) := by decide +kernel
theorem dX9_digest_91 : decode cX9_digest 91 = .ok (.iconst 3, 1) := by decide +kernel
theorem dX9_digest_92 : decode cX9_digest 92 = .ok (.irem, 1) := by decide +kernel
theorem dX9_digest_93 : decode cX9_digest 93 = .ok (.invokevirtual 193, 3) := by decide +kernel
theorem dX9_digest_96 : decode cX9_digest 96 = .ok (.i2l, 1) := by decide +kernel
theorem dX9_digest_97 : decode cX9_digest 97 = .ok (.invokevirtual 243, 3) := by decide +kernel
theorem dX9_digest_100 : decode cX9_digest 100 = .ok (.iinc 1 1, 3) := by decide +kernel
theorem dX9_digest_103 : decode cX9_digest 103 = .ok (.goto (-34), 3) := by decide +kernel
theorem dX9_digest_106 : decode cX9_digest 106 = .ok (.aload_n 0, 1) := by decide +kernel
theorem dX9_digest_107 : decode cX9_digest 107 = .ok (.invokevirtual 249, 3) := by decide +kernel
theorem dX9_digest_110 : decode cX9_digest 110 = .ok (.aload_n 0, 1) := by decide +kernel
theorem dX9_digest_111 : decode cX9_digest 111 = .ok (.invokevirtual 252, 3) := by decide +kernel
theorem dX9_digest_114 : decode cX9_digest 114 = .ok (.aload_n 0, 1) := by decide +kernel
theorem dX9_digest_115 : decode cX9_digest 115 = .ok (.aload_n 0, 1) := by decide +kernel
theorem dX9_digest_116 : decode cX9_digest 116 = .ok (.iconst 5, 1) := by decide +kernel
theorem dX9_digest_117 : decode cX9_digest 117 = .ok (.invokevirtual 215, 3) := by decide +kernel
theorem dX9_digest_120 : decode cX9_digest 120 = .ok (.i2l, 1) := by decide +kernel
theorem dX9_digest_121 : decode cX9_digest 121 = .ok (.invokevirtual 243, 3) := by decide +kernel
theorem dX9_digest_124 : decode cX9_digest 124 = .ok (.aload_n 0, 1) := by decide +kernel
theorem dX9_digest_125 : decode cX9_digest 125 = .ok (.aload_n 0, 1) := by decide +kernel
theorem dX9_digest_126 : decode cX9_digest 126 = .ok (.iconst 5, 1) := by decide +kernel
theorem dX9_digest_127 : decode cX9_digest 127 = .ok (.invokevirtual 215, 3) := by decide +kernel
theorem dX9_digest_130 : decode cX9_digest 130 = .ok (.i2l, 1) := by decide +kernel
theorem dX9_digest_131 : decode cX9_digest 131 = .ok (.invokevirtual 243, 3) := by decide +kernel
theorem dX9_digest_134 : decode cX9_digest 134 = .ok (.iconst 0, 1) := by decide +kernel
theorem dX9_digest_135 : decode cX9_digest 135 = .ok (.istore_n 1, 1) := by decide +kernel
theorem dX9_digest_136 : decode cX9_digest 136 = .ok (.iload_n 1, 1) := by decide +kernel
theorem dX9_digest_137 : decode cX9_digest 137 = .ok (.iconst 3, 1) := by decide +kernel
theorem dX9_digest_138 : decode cX9_digest 138 = .ok (.if_icmp .ge 19, 3) := by decide +kernel
theorem dX9_digest_141 : decode cX9_digest 141 = .ok (.aload_n 0, 1) := by decide +kernel
theorem dX9_digest_142 : decode cX9_digest 142 = .ok (.aload_n 0, 1) := by decide +kernel
theorem dX9_digest_143 : decode cX9_digest 143 = .ok (.iload_n 1, 1) := by decide +kernel
theorem dX9_digest_144 : decode cX9_digest 144 = .ok (.invokevirtual 222, 3) := by decide +kernel
theorem dX9_digest_147 : decode cX9_digest 147 = .ok (.i2l, 1) := by decide +kernel
theorem dX9_digest_148 : decode cX9_digest 148 = .ok (.invokevirtual 243, 3) := by decide +kernel
theorem dX9_digest_151 : decode cX9_digest 151 = .ok (.iinc 1 1, 3) := by decide +kernel
theorem dX9_digest_154 : decode cX9_digest 154 = .ok (.goto (-18), 3) := by decide +kernel
theorem dX9_digest_157 : decode cX9_digest 157 = .ok (.aload_n 0, 1) := by decide +kernel
theorem dX9_digest_158 : decode cX9_digest 158 = .ok (.aload_n 0, 1) := by decide +kernel
theorem dX9_digest_159 : decode cX9_digest 159 = .ok (.invokevirtual 225, 3) := by decide +kernel
theorem dX9_digest_162 : decode cX9_digest 162 = .ok (.invokestatic 255, 3) := by decide +kernel
theorem dX9_digest_165 : decode cX9_digest 165 = .ok (.invokevirtual 243, 3) := by decide +kernel
theorem dX9_digest_168 : decode cX9_digest 168 = .ok (.iconst 0, 1) := by decide +kernel
theorem dX9_digest_169 : decode cX9_digest 169 = .ok (.istore_n 1, 1) := by decide +kernel
theorem dX9_digest_170 : decode cX9_digest 170 = .ok (.iload_n 1, 1) := by decide +kernel
theorem dX9_digest_171 : decode cX9_digest 171 = .ok (.iconst 2, 1) := by decide +kernel
theorem dX9_digest_172 : decode cX9_digest 172 = .ok (.if_icmp .ge 27, 3) := by decide +kernel
theorem dX9_digest_175 : decode cX9_digest 175 = .ok (.aload_n 0, 1) := by decide +kernel
theorem dX9_digest_176 : decode cX9_digest 176 = .ok (.aload_n 0, 1) := by decide +kernel
theorem dX9_digest_177 : decode cX9_digest 177 = .ok (.getfield 19, 3) := by decide +kernel
theorem dX9_digest_180 : decode cX9_digest 180 = .ok (.iload_n 1, 1) := by decide +kernel
theorem dX9_digest_181 : decode cX9_digest 181 = .ok (.baload, 1) := by decide +kernel
theorem dX9_digest_182 : decode cX9_digest 182 = .ok (.ifCond .eq 7, 3) := by decide +kernel
theorem dX9_digest_185 : decode cX9_digest 185 = .ok (.lconst 1, 1) := by decide +kernel
theorem dX9_digest_186 : decode cX9_digest 186 = .ok (.goto 4, 3) := by decide +kernel
theorem dX9_digest_189 : decode cX9_digest 189 = .ok (.lconst 0, 1) := by decide +kernel
theorem dX9_digest_190 : decode cX9_digest 190 = .ok (.invokevirtual 243, 3) := by decide +kernel
theorem dX9_digest_193 : decode cX9_digest 193 = .ok (.iinc 1 1, 3) := by decide +kernel
theorem dX9_digest_196 : decode cX9_digest 196 = .ok (.goto (-26), 3) := by decide +kernel
theorem dX9_digest_199 : decode cX9_digest 199 = .ok (.aload_n 0, 1) := by decide +kernel
theorem dX9_digest_200 : decode cX9_digest 200 = .ok (.aload_n 0, 1) := by decide +kernel
theorem dX9_digest_201 : decode cX9_digest 201 = .ok (.getfield 143, 3) := by decide +kernel
theorem dX9_digest_204 : decode cX9_digest 204 = .ok (.i2l, 1) := by decide +kernel
theorem dX9_digest_205 : decode cX9_digest 205 = .ok (.invokevirtual 243, 3) := by decide +kernel
theorem dX9_digest_208 : decode cX9_digest 208 = .ok (.iconst 0, 1) := by decide +kernel
theorem dX9_digest_209 : decode cX9_digest 209 = .ok (.istore_n 1, 1) := by decide +kernel
theorem dX9_digest_210 : decode cX9_digest 210 = .ok (.iload_n 1, 1) := by decide +kernel
theorem dX9_digest_211 : decode cX9_digest 211 = .ok (.aload_n 0, 1) := by decide +kernel
theorem dX9_digest_212 : decode cX9_digest 212 = .ok (.getfield 143, 3) := by decide +kernel
theorem dX9_digest_215 : decode cX9_digest 215 = .ok (.if_icmp .ge 20, 3) := by decide +kernel
theorem dX9_digest_218 : decode cX9_digest 218 = .ok (.aload_n 0, 1) := by decide +kernel
theorem dX9_digest_219 : decode cX9_digest 219 = .ok (.aload_n 0, 1) := by decide +kernel
theorem dX9_digest_220 : decode cX9_digest 220 = .ok (.getfield 23, 3) := by decide +kernel
theorem dX9_digest_223 : decode cX9_digest 223 = .ok (.iload_n 1, 1) := by decide +kernel
theorem dX9_digest_224 : decode cX9_digest 224 = .ok (.iaload, 1) := by decide +kernel
theorem dX9_digest_225 : decode cX9_digest 225 = .ok (.i2l, 1) := by decide +kernel
theorem dX9_digest_226 : decode cX9_digest 226 = .ok (.invokevirtual 243, 3) := by decide +kernel
theorem dX9_digest_229 : decode cX9_digest 229 = .ok (.iinc 1 1, 3) := by decide +kernel
theorem dX9_digest_232 : decode cX9_digest 232 = .ok (.goto (-22), 3) := by decide +kernel
theorem dX9_digest_235 : decode cX9_digest 235 = .ok (.aload_n 0, 1) := by decide +kernel
theorem dX9_digest_236 : decode cX9_digest 236 = .ok (.getfield 239, 3) := by decide +kernel
theorem dX9_digest_239 : decode cX9_digest 239 = .ok (.lreturn, 1) := by decide +kernel
theorem dJ6_bitCount_0f7a4_0 : decode cJ6_bitCount_0f7a4 0 = .ok (.iload_n 0, 1) := by decide +kernel
theorem dJ6_bitCount_0f7a4_1 : decode cJ6_bitCount_0f7a4 1 = .ok (.iload_n 0, 1) := by decide +kernel
theorem dJ6_bitCount_0f7a4_2 : decode cJ6_bitCount_0f7a4 2 = .ok (.iconst 1, 1) := by decide +kernel
theorem dJ6_bitCount_0f7a4_3 : decode cJ6_bitCount_0f7a4 3 = .ok (.iushr, 1) := by decide +kernel
theorem dJ6_bitCount_0f7a4_4 : decode cJ6_bitCount_0f7a4 4 = .ok (.ldc_w 265, 3) := by decide +kernel
theorem dJ6_bitCount_0f7a4_7 : decode cJ6_bitCount_0f7a4 7 = .ok (.iand, 1) := by decide +kernel
theorem dJ6_bitCount_0f7a4_8 : decode cJ6_bitCount_0f7a4 8 = .ok (.isub, 1) := by decide +kernel
theorem dJ6_bitCount_0f7a4_9 : decode cJ6_bitCount_0f7a4 9 = .ok (.istore_n 0, 1) := by decide +kernel
theorem dJ6_bitCount_0f7a4_10 : decode cJ6_bitCount_0f7a4 10 = .ok (.iload_n 0, 1) := by decide +kernel
theorem dJ6_bitCount_0f7a4_11 : decode cJ6_bitCount_0f7a4 11 = .ok (.ldc_w 266, 3) := by decide +kernel
theorem dJ6_bitCount_0f7a4_14 : decode cJ6_bitCount_0f7a4 14 = .ok (.iand, 1) := by decide +kernel
theorem dJ6_bitCount_0f7a4_15 : decode cJ6_bitCount_0f7a4 15 = .ok (.iload_n 0, 1) := by decide +kernel
theorem dJ6_bitCount_0f7a4_16 : decode cJ6_bitCount_0f7a4 16 = .ok (.iconst 2, 1) := by decide +kernel
theorem dJ6_bitCount_0f7a4_17 : decode cJ6_bitCount_0f7a4 17 = .ok (.iushr, 1) := by decide +kernel
theorem dJ6_bitCount_0f7a4_18 : decode cJ6_bitCount_0f7a4 18 = .ok (.ldc_w 266, 3) := by decide +kernel
theorem dJ6_bitCount_0f7a4_21 : decode cJ6_bitCount_0f7a4 21 = .ok (.iand, 1) := by decide +kernel
theorem dJ6_bitCount_0f7a4_22 : decode cJ6_bitCount_0f7a4 22 = .ok (.iadd, 1) := by decide +kernel
theorem dJ6_bitCount_0f7a4_23 : decode cJ6_bitCount_0f7a4 23 = .ok (.istore_n 0, 1) := by decide +kernel
theorem dJ6_bitCount_0f7a4_24 : decode cJ6_bitCount_0f7a4 24 = .ok (.iload_n 0, 1) := by decide +kernel
theorem dJ6_bitCount_0f7a4_25 : decode cJ6_bitCount_0f7a4 25 = .ok (.iload_n 0, 1) := by decide +kernel
theorem dJ6_bitCount_0f7a4_26 : decode cJ6_bitCount_0f7a4 26 = .ok (.iconst 4, 1) := by decide +kernel
theorem dJ6_bitCount_0f7a4_27 : decode cJ6_bitCount_0f7a4 27 = .ok (.iushr, 1) := by decide +kernel
theorem dJ6_bitCount_0f7a4_28 : decode cJ6_bitCount_0f7a4 28 = .ok (.iadd, 1) := by decide +kernel
theorem dJ6_bitCount_0f7a4_29 : decode cJ6_bitCount_0f7a4 29 = .ok (.ldc_w 267, 3) := by decide +kernel
theorem dJ6_bitCount_0f7a4_32 : decode cJ6_bitCount_0f7a4 32 = .ok (.iand, 1) := by decide +kernel
theorem dJ6_bitCount_0f7a4_33 : decode cJ6_bitCount_0f7a4 33 = .ok (.istore_n 0, 1) := by decide +kernel
theorem dJ6_bitCount_0f7a4_34 : decode cJ6_bitCount_0f7a4 34 = .ok (.iload_n 0, 1) := by decide +kernel
theorem dJ6_bitCount_0f7a4_35 : decode cJ6_bitCount_0f7a4 35 = .ok (.iload_n 0, 1) := by decide +kernel
theorem dJ6_bitCount_0f7a4_36 : decode cJ6_bitCount_0f7a4 36 = .ok (.bipush 8, 2) := by decide +kernel
theorem dJ6_bitCount_0f7a4_38 : decode cJ6_bitCount_0f7a4 38 = .ok (.iushr, 1) := by decide +kernel
theorem dJ6_bitCount_0f7a4_39 : decode cJ6_bitCount_0f7a4 39 = .ok (.iadd, 1) := by decide +kernel
theorem dJ6_bitCount_0f7a4_40 : decode cJ6_bitCount_0f7a4 40 = .ok (.istore_n 0, 1) := by decide +kernel
theorem dJ6_bitCount_0f7a4_41 : decode cJ6_bitCount_0f7a4 41 = .ok (.iload_n 0, 1) := by decide +kernel
theorem dJ6_bitCount_0f7a4_42 : decode cJ6_bitCount_0f7a4 42 = .ok (.iload_n 0, 1) := by decide +kernel
theorem dJ6_bitCount_0f7a4_43 : decode cJ6_bitCount_0f7a4 43 = .ok (.bipush 16, 2) := by decide +kernel
theorem dJ6_bitCount_0f7a4_45 : decode cJ6_bitCount_0f7a4 45 = .ok (.iushr, 1) := by decide +kernel
theorem dJ6_bitCount_0f7a4_46 : decode cJ6_bitCount_0f7a4 46 = .ok (.iadd, 1) := by decide +kernel
theorem dJ6_bitCount_0f7a4_47 : decode cJ6_bitCount_0f7a4 47 = .ok (.istore_n 0, 1) := by decide +kernel
theorem dJ6_bitCount_0f7a4_48 : decode cJ6_bitCount_0f7a4 48 = .ok (.iload_n 0, 1) := by decide +kernel
theorem dJ6_bitCount_0f7a4_49 : decode cJ6_bitCount_0f7a4 49 = .ok (.bipush 63, 2) := by decide +kernel
theorem dJ6_bitCount_0f7a4_51 : decode cJ6_bitCount_0f7a4 51 = .ok (.iand, 1) := by decide +kernel
theorem dJ6_bitCount_0f7a4_52 : decode cJ6_bitCount_0f7a4 52 = .ok (.ireturn, 1) := by decide +kernel
theorem dJ9_max_7cf53_0 : decode cJ9_max_7cf53 0 = .ok (.iload_n 0, 1) := by decide +kernel
theorem dJ9_max_7cf53_1 : decode cJ9_max_7cf53 1 = .ok (.iload_n 1, 1) := by decide +kernel
theorem dJ9_max_7cf53_2 : decode cJ9_max_7cf53 2 = .ok (.if_icmp .lt 7, 3) := by decide +kernel
theorem dJ9_max_7cf53_5 : decode cJ9_max_7cf53 5 = .ok (.iload_n 0, 1) := by decide +kernel
theorem dJ9_max_7cf53_6 : decode cJ9_max_7cf53 6 = .ok (.goto 4, 3) := by decide +kernel
theorem dJ9_max_7cf53_9 : decode cJ9_max_7cf53 9 = .ok (.iload_n 1, 1) := by decide +kernel
theorem dJ9_max_7cf53_10 : decode cJ9_max_7cf53 10 = .ok (.ireturn, 1) := by decide +kernel
theorem dJ9_min_7cf53_0 : decode cJ9_min_7cf53 0 = .ok (.iload_n 0, 1) := by decide +kernel
theorem dJ9_min_7cf53_1 : decode cJ9_min_7cf53 1 = .ok (.iload_n 1, 1) := by decide +kernel
theorem dJ9_min_7cf53_2 : decode cJ9_min_7cf53 2 = .ok (.if_icmp .gt 7, 3) := by decide +kernel
theorem dJ9_min_7cf53_5 : decode cJ9_min_7cf53 5 = .ok (.iload_n 0, 1) := by decide +kernel
theorem dJ9_min_7cf53_6 : decode cJ9_min_7cf53 6 = .ok (.goto 4, 3) := by decide +kernel
theorem dJ9_min_7cf53_9 : decode cJ9_min_7cf53 9 = .ok (.iload_n 1, 1) := by decide +kernel
theorem dJ9_min_7cf53_10 : decode cJ9_min_7cf53 10 = .ok (.ireturn, 1) := by decide +kernel
theorem dJ7_fill_53178_0 : decode cJ7_fill_53178 0 = .ok (.iconst 0, 1) := by decide +kernel
theorem dJ7_fill_53178_1 : decode cJ7_fill_53178 1 = .ok (.istore_n 2, 1) := by decide +kernel
theorem dJ7_fill_53178_2 : decode cJ7_fill_53178 2 = .ok (.aload_n 0, 1) := by decide +kernel
theorem dJ7_fill_53178_3 : decode cJ7_fill_53178 3 = .ok (.arraylength, 1) := by decide +kernel
theorem dJ7_fill_53178_4 : decode cJ7_fill_53178 4 = .ok (.istore_n 3, 1) := by decide +kernel
theorem dJ7_fill_53178_5 : decode cJ7_fill_53178 5 = .ok (.iload_n 2, 1) := by decide +kernel
theorem dJ7_fill_53178_6 : decode cJ7_fill_53178 6 = .ok (.iload_n 3, 1) := by decide +kernel
theorem dJ7_fill_53178_7 : decode cJ7_fill_53178 7 = .ok (.if_icmp .ge 13, 3) := by decide +kernel
theorem dJ7_fill_53178_10 : decode cJ7_fill_53178 10 = .ok (.aload_n 0, 1) := by decide +kernel
theorem dJ7_fill_53178_11 : decode cJ7_fill_53178 11 = .ok (.iload_n 2, 1) := by decide +kernel
theorem dJ7_fill_53178_12 : decode cJ7_fill_53178 12 = .ok (.iload_n 1, 1) := by decide +kernel
theorem dJ7_fill_53178_13 : decode cJ7_fill_53178 13 = .ok (.iastore, 1) := by decide +kernel
theorem dJ7_fill_53178_14 : decode cJ7_fill_53178 14 = .ok (.iinc 2 1, 3) := by decide +kernel
theorem dJ7_fill_53178_17 : decode cJ7_fill_53178 17 = .ok (.goto (-12), 3) := by decide +kernel
theorem dJ7_fill_53178_20 : decode cJ7_fill_53178 20 = .ok (.return_, 1) := by decide +kernel
set_option maxRecDepth 20000 in
theorem ggL_build_X8_build : GoodIn wsL_build wsX8_build := goodIn_ca (goodIn_r _ [6, 7, 8, 9, 10, 11, 12, 5, 13, 14, 15, 16, 17, 18, 19, 20, 21, 22, 23, 24, 25, 26, 27, 28, 29, 30, 31, 32, 33, 34, 35, 36, 37, 38, 39, 40, 41, 42, 43, 44, 45, 46, 47, 48, 49, 50, 51, 52, 53, 54, 55, 56, 57, 58, 59, 60, 61, 62, 63, 64, 65, 66, 67, 68, 69, 70, 71, 72, 73, 74, 75, 76, 77, 78, 79, 80, 81, 82, 83, 84, 85, 86, 87, 88, 89] (by decide +kernel) (by decide +kernel)) (goodIn_sub (fun _ h => List.mem_cons_of_mem _ (List.mem_append_right _ h)) (by decide +kernel))
set_option maxRecDepth 20000 in
theorem gL_build_X8_build : GoodIn wsL_build (wsV RL 7 RX8 yX8_build wsX8_build) := goodIn_app (goodIn_of _ (by decide +kernel)) ggL_build_X8_build
