theorem dX8_init_0 : decode cX8_init 0 = .ok (.aload_n 0, 1) := by decide +kernel
theorem dX8_init_1 : decode cX8_init 1 = .ok (.invokespecial 3, 3) := by decide +kernel
theorem dX8_init_4 : decode cX8_init 4 = .ok (.aload_n 0, 1) := by decide +kernel
theorem dX8_init_5 : decode cX8_init 5 = .ok (.new 9, 3) := by decide +kernel
theorem dX8_init_8 : decode cX8_init 8 = .ok (.dup, 1) := by decide +kernel
theorem dX8_init_9 : decode cX8_init 9 = .ok (.invokespecial 11, 3) := by decide +kernel
theorem dX8_init_12 : decode cX8_init 12 = .ok (.putfield 12, 3) := by decide +kernel
theorem dX8_init_15 : decode cX8_init 15 = .ok (.aload_n 0, 1) := by decide +kernel
theorem dX8_init_16 : decode cX8_init 16 = .ok (.new 16, 3) := by decide +kernel
theorem dX8_init_19 : decode cX8_init 19 = .ok (.dup, 1) := by decide +kernel
theorem dX8_init_20 : decode cX8_init 20 = .ok (.invokespecial 18, 3) := by decide +kernel
theorem dX8_init_23 : decode cX8_init 23 = .ok (.putfield 19, 3) := by decide +kernel
theorem dX8_init_26 : decode cX8_init 26 = .ok (.aload_n 0, 1) := by decide +kernel
theorem dX8_init_27 : decode cX8_init 27 = .ok (.new 23, 3) := by decide +kernel
theorem dX8_init_30 : decode cX8_init 30 = .ok (.dup, 1) := by decide +kernel
theorem dX8_init_31 : decode cX8_init 31 = .ok (.invokespecial 25, 3) := by decide +kernel
theorem dX8_init_34 : decode cX8_init 34 = .ok (.putfield 26, 3) := by decide +kernel
theorem dX8_init_37 : decode cX8_init 37 = .ok (.aload_n 0, 1) := by decide +kernel
theorem dX8_init_38 : decode cX8_init 38 = .ok (.new 30, 3) := by decide +kernel
theorem dX8_init_41 : decode cX8_init 41 = .ok (.dup, 1) := by decide +kernel
theorem dX8_init_42 : decode cX8_init 42 = .ok (.invokespecial 32, 3) := by decide +kernel
theorem dX8_init_45 : decode cX8_init 45 = .ok (.putfield 33, 3) := by decide +kernel
theorem dX8_init_48 : decode cX8_init 48 = .ok (.aload_n 0, 1) := by decide +kernel
theorem dX8_init_49 : decode cX8_init 49 = .ok (.new 37, 3) := by decide +kernel
theorem dX8_init_52 : decode cX8_init 52 = .ok (.dup, 1) := by decide +kernel
theorem dX8_init_53 : decode cX8_init 53 = .ok (.invokespecial 39, 3) := by decide +kernel
theorem dX8_init_56 : decode cX8_init 56 = .ok (.putfield 40, 3) := by decide +kernel
theorem dX8_init_59 : decode cX8_init 59 = .ok (.aload_n 0, 1) := by decide +kernel
theorem dX8_init_60 : decode cX8_init 60 = .ok (.new 44, 3) := by decide +kernel
theorem dX8_init_63 : decode cX8_init 63 = .ok (.dup, 1) := by decide +kernel
theorem dX8_init_64 : decode cX8_init 64 = .ok (.invokespecial 46, 3) := by decide +kernel
theorem dX8_init_67 : decode cX8_init 67 = .ok (.putfield 47, 3) := by decide +kernel
theorem dX8_init_70 : decode cX8_init 70 = .ok (.aload_n 0, 1) := by decide +kernel
theorem dX8_init_71 : decode cX8_init 71 = .ok (.new 51, 3) := by decide +kernel
theorem dX8_init_74 : decode cX8_init 74 = .ok (.dup, 1) := by decide +kernel
theorem dX8_init_75 : decode cX8_init 75 = .ok (.invokespecial 53, 3) := by decide +kernel
theorem dX8_init_78 : decode cX8_init 78 = .ok (.putfield 54, 3) := by decide +kernel
theorem dX8_init_81 : decode cX8_init 81 = .ok (.aload_n 0, 1) := by decide +kernel
theorem dX8_init_82 : decode cX8_init 82 = .ok (.new 58, 3) := by decide +kernel
theorem dX8_init_85 : decode cX8_init 85 = .ok (.dup, 1) := by decide +kernel
theorem dX8_init_86 : decode cX8_init 86 = .ok (.invokespecial 60, 3) := by decide +kernel
theorem dX8_init_89 : decode cX8_init 89 = .ok (.putfield 61, 3) := by decide +kernel
theorem dX8_init_92 : decode cX8_init 92 = .ok (.return_, 1) := by decide +kernel
set_option maxRecDepth 20000 in
theorem ggX8_build_X8_isCell : GoodIn wsX8_build wsX8_isCell := goodIn_r _ [8] (by decide +kernel) (by decide +kernel)
set_option maxRecDepth 20000 in
theorem gX8_build_X8_isCell : GoodIn wsX8_build (va_wsS RX8 65 yX8_isCell wsX8_isCell) := goodIn_app (goodIn_of _ (by decide +kernel)) ggX8_build_X8_isCell
set_option maxRecDepth 20000 in
theorem ggX8_build_X1_save : GoodIn wsX8_build wsX1_save := goodIn_r _ [13, 14, 15, 16, 17, 18, 12, 19, 20, 21, 22, 23, 24, 25, 26, 27, 28, 29, 30, 31, 32, 33, 34, 35, 76, 77, 78, 79, 80, 81, 82, 83, 84] (by decide +kernel) (by decide +kernel)
set_option maxRecDepth 20000 in
theorem gX8_build_X1_save : GoodIn wsX8_build (wsV RX8 76 RX1 yX1_save wsX1_save) := goodIn_app (goodIn_of _ (by decide +kernel)) ggX8_build_X1_save
set_option maxRecDepth 20000 in
theorem ggX8_build_X8_buildOrBreak : GoodIn wsX8_build wsX8_buildOrBreak := goodIn_r _ [39, 4, 40, 41, 42, 43, 44, 45, 23, 46, 25, 47, 48, 49, 50, 31, 32, 51, 52, 53, 54, 55, 56, 57, 58, 59, 60, 61, 7, 62, 63, 64, 65, 66, 67, 68, 69, 70, 71, 72, 73, 74, 75, 78, 79, 80, 81, 82, 83, 84] (by decide +kernel) (by decide +kernel)
set_option maxRecDepth 20000 in
theorem gX8_build_X8_buildOrBreak : GoodIn wsX8_build (wsV RX8 80 RX8 yX8_buildOrBreak wsX8_buildOrBreak) := goodIn_app (goodIn_of _ (by decide +kernel)) ggX8_build_X8_buildOrBreak
theorem dX8_build_0 : decode cX8_build 0 = .ok (.iload_n 1, 1) := by decide +kernel
theorem dX8_build_1 : decode cX8_build 1 = .ok (.iload_n 2, 1) := by decide +kernel
theorem dX8_build_2 : decode cX8_build 2 = .ok (.invokestatic 65, 3) := by decide +kernel
theorem dX8_build_5 : decode cX8_build 5 = .ok (.ifCond .ne 13, 3) := by decide +kernel
theorem dX8_build_8 : decode cX8_build 8 = .ok (.new 69, 3) := by decide +kernel
theorem dX8_build_11 : decode cX8_build 11 = .ok (.dup, 1) := by decide +kernel
theorem dX8_build_12 : decode cX8_build 12 = .ok (.ldc 71, 2) := by decide +kernel
theorem dX8_build_14 : decode cX8_build 14 = .ok (.invokespecial 73, 3) := by decide +kernel
theorem dX8_build_17 : decode cX8_build 17 = .ok (.athrow, 1) := by decide +kernel
theorem dX8_build_18 : decode cX8_build 18 = .ok (.aload_n 0, 1) := by decide +kernel
theorem dX8_build_19 : decode cX8_build 19 = .ok (.getfield 19, 3) := by decide +kernel
theorem dX8_build_22 : decode cX8_build 22 = .ok (.aload_n 0, 1) := by decide +kernel
theorem dX8_build_23 : decode cX8_build 23 = .ok (.getfield 12, 3) := by decide +kernel
theorem dX8_build_26 : decode cX8_build 26 = .ok (.invokevirtual 76, 3) := by decide +kernel
theorem dX8_build_29 : decode cX8_build 29 = .ok (.aload_n 0, 1) := by decide +kernel
theorem dX8_build_30 : decode cX8_build 30 = .ok (.iload_n 1, 1) := by decide +kernel
theorem dX8_build_31 : decode cX8_build 31 = .ok (.iload_n 2, 1) := by decide +kernel
theorem dX8_build_32 : decode cX8_build 32 = .ok (.invokevirtual 80, 3) := by decide +kernel
theorem dX8_build_35 : decode cX8_build 35 = .ok (.ireturn, 1) := by decide +kernel
set_option maxRecDepth 20000 in
theorem ggX8_set_X8_isSetting : GoodIn wsX8_set wsX8_isSetting := goodIn_r _ [12] (by decide +kernel) (by decide +kernel)
set_option maxRecDepth 20000 in
theorem gX8_set_X8_isSetting : GoodIn wsX8_set (va_wsS RX8 84 yX8_isSetting wsX8_isSetting) := goodIn_app (goodIn_of _ (by decide +kernel)) ggX8_set_X8_isSetting
set_option maxRecDepth 20000 in
theorem ggX8_set_X8_at : GoodIn wsX8_set wsX8_at := goodIn_r _ [15] (by decide +kernel) (by decide +kernel)
set_option maxRecDepth 20000 in
theorem gX8_set_X8_at : GoodIn wsX8_set (va_wsS RX8 94 yX8_at wsX8_at) := goodIn_app (goodIn_of _ (by decide +kernel)) ggX8_set_X8_at
set_option maxRecDepth 20000 in
theorem ggX8_set_X1_save : GoodIn wsX8_set wsX1_save := goodIn_r _ [20, 21, 22, 23, 24, 25, 19, 26, 27, 28, 29, 30, 31, 32, 33, 34, 35, 36, 37, 38, 39, 40, 41, 42, 69, 70, 62, 63, 64, 65, 66, 67, 68] (by decide +kernel) (by decide +kernel)
set_option maxRecDepth 20000 in
theorem gX8_set_X1_save : GoodIn wsX8_set (wsV RX8 76 RX1 yX1_save wsX1_save) := goodIn_app (goodIn_of _ (by decide +kernel)) ggX8_set_X1_save
set_option maxRecDepth 20000 in
theorem ggX8_set_X8_store : GoodIn wsX8_set wsX8_store := goodIn_r _ [45] (by decide +kernel) (by decide +kernel)
set_option maxRecDepth 20000 in
theorem gX8_set_X8_store : GoodIn wsX8_set (va_wsS RX8 106 yX8_store wsX8_store) := goodIn_app (goodIn_of _ (by decide +kernel)) ggX8_set_X8_store
set_option maxRecDepth 20000 in
theorem ggX8_set_X8_forgetLevel : GoodIn wsX8_set wsX8_forgetLevel := goodIn_r _ [49, 50, 51, 52, 53, 54, 55, 56, 57, 58, 59, 60, 61] (by decide +kernel) (by decide +kernel)
set_option maxRecDepth 20000 in
theorem gX8_set_X8_forgetLevel : GoodIn wsX8_set (wsV RX8 110 RX8 yX8_forgetLevel wsX8_forgetLevel) := goodIn_app (goodIn_of _ (by decide +kernel)) ggX8_set_X8_forgetLevel
theorem dX8_set_0 : decode cX8_set 0 = .ok (.iload_n 1, 1) := by decide +kernel
theorem dX8_set_1 : decode cX8_set 1 = .ok (.invokestatic 84, 3) := by decide +kernel
theorem dX8_set_4 : decode cX8_set 4 = .ok (.ifCond .ne 13, 3) := by decide +kernel
theorem dX8_set_7 : decode cX8_set 7 = .ok (.new 69, 3) := by decide +kernel
theorem dX8_set_10 : decode cX8_set 10 = .ok (.dup, 1) := by decide +kernel
theorem dX8_set_11 : decode cX8_set 11 = .ok (.ldc 88, 2) := by decide +kernel
theorem dX8_set_13 : decode cX8_set 13 = .ok (.invokespecial 73, 3) := by decide +kernel
theorem dX8_set_16 : decode cX8_set 16 = .ok (.athrow, 1) := by decide +kernel
theorem dX8_set_17 : decode cX8_set 17 = .ok (.iload_n 2, 1) := by decide +kernel
theorem dX8_set_18 : decode cX8_set 18 = .ok (.iconst 1, 1) := by decide +kernel
theorem dX8_set_19 : decode cX8_set 19 = .ok (.if_icmp .lt 14, 3) := by decide +kernel
theorem dX8_set_22 : decode cX8_set 22 = .ok (.iload_n 2, 1) := by decide +kernel
theorem dX8_set_23 : decode cX8_set 23 = .ok (.getstatic 90, 3) := by decide +kernel
theorem dX8_set_26 : decode cX8_set 26 = .ok (.iload_n 1, 1) := by decide +kernel
theorem dX8_set_27 : decode cX8_set 27 = .ok (.invokestatic 94, 3) := by decide +kernel
theorem dX8_set_30 : decode cX8_set 30 = .ok (.if_icmp .le 13, 3) := by decide +kernel
theorem dX8_set_33 : decode cX8_set 33 = .ok (.new 98, 3) := by decide +kernel
theorem dX8_set_36 : decode cX8_set 36 = .ok (.dup, 1) := by decide +kernel
theorem dX8_set_37 : decode cX8_set 37 = .ok (.ldc 100, 2) := by decide +kernel
theorem dX8_set_39 : decode cX8_set 39 = .ok (.invokespecial 102, 3) := by decide +kernel
theorem dX8_set_42 : decode cX8_set 42 = .ok (.athrow, 1) := by decide +kernel
theorem dX8_set_43 : decode cX8_set 43 = .ok (.aload_n 0, 1) := by decide +kernel
theorem dX8_set_44 : decode cX8_set 44 = .ok (.getfield 19, 3) := by decide +kernel
theorem dX8_set_47 : decode cX8_set 47 = .ok (.aload_n 0, 1) := by decide +kernel
theorem dX8_set_48 : decode cX8_set 48 = .ok (.getfield 12, 3) := by decide +kernel
theorem dX8_set_51 : decode cX8_set 51 = .ok (.invokevirtual 76, 3) := by decide +kernel
theorem dX8_set_54 : decode cX8_set 54 = .ok (.aload_n 0, 1) := by decide +kernel
theorem dX8_set_55 : decode cX8_set 55 = .ok (.getfield 12, 3) := by decide +kernel
theorem dX8_set_58 : decode cX8_set 58 = .ok (.getfield 103, 3) := by decide +kernel
theorem dX8_set_61 : decode cX8_set 61 = .ok (.iload_n 1, 1) := by decide +kernel
theorem dX8_set_62 : decode cX8_set 62 = .ok (.invokestatic 94, 3) := by decide +kernel
theorem dX8_set_65 : decode cX8_set 65 = .ok (.istore_n 3, 1) := by decide +kernel
theorem dX8_set_66 : decode cX8_set 66 = .ok (.aload_n 0, 1) := by decide +kernel
theorem dX8_set_67 : decode cX8_set 67 = .ok (.getfield 12, 3) := by decide +kernel
theorem dX8_set_70 : decode cX8_set 70 = .ok (.getfield 103, 3) := by decide +kernel
theorem dX8_set_73 : decode cX8_set 73 = .ok (.iload_n 1, 1) := by decide +kernel
theorem dX8_set_74 : decode cX8_set 74 = .ok (.iload_n 2, 1) := by decide +kernel
theorem dX8_set_75 : decode cX8_set 75 = .ok (.invokestatic 106, 3) := by decide +kernel
theorem dX8_set_78 : decode cX8_set 78 = .ok (.aload_n 0, 1) := by decide +kernel
theorem dX8_set_79 : decode cX8_set 79 = .ok (.invokevirtual 110, 3) := by decide +kernel
theorem dX8_set_82 : decode cX8_set 82 = .ok (.iload_n 3, 1) := by decide +kernel
theorem dX8_set_83 : decode cX8_set 83 = .ok (.ireturn, 1) := by decide +kernel
set_option maxRecDepth 20000 in
theorem ggX8_walk_X8_isSide : GoodIn wsX8_walk wsX8_isSide := goodIn_r _ [8] (by decide +kernel) (by decide +kernel)
set_option maxRecDepth 20000 in
theorem gX8_walk_X8_isSide : GoodIn wsX8_walk (va_wsS RX8 113 yX8_isSide wsX8_isSide) := goodIn_app (goodIn_of _ (by decide +kernel)) ggX8_walk_X8_isSide
set_option maxRecDepth 20000 in
theorem ggX8_walk_X1_save : GoodIn wsX8_walk wsX1_save := goodIn_r _ [13, 14, 15, 16, 17, 18, 12, 19, 20, 21, 22, 23, 24, 25, 26, 27, 28, 29, 30, 31, 32, 33, 34, 35, 61, 62, 63, 64, 65, 66, 67, 68, 69] (by decide +kernel) (by decide +kernel)
set_option maxRecDepth 20000 in
theorem gX8_walk_X1_save : GoodIn wsX8_walk (wsV RX8 76 RX1 yX1_save wsX1_save) := goodIn_app (goodIn_of _ (by decide +kernel)) ggX8_walk_X1_save
set_option maxRecDepth 20000 in
theorem ggX8_walk_X8_runnerWalks : GoodIn wsX8_walk wsX8_runnerWalks := goodIn_r _ [39, 4, 40, 41, 42, 43, 44, 45, 23, 46, 47, 48, 49, 50, 25, 51, 52, 53, 54, 55, 56, 57, 58, 59, 60, 63, 64, 65, 66, 67, 68, 69] (by decide +kernel) (by decide +kernel)
set_option maxRecDepth 20000 in
theorem gX8_walk_X8_runnerWalks : GoodIn wsX8_walk (wsV RX8 118 RX8 yX8_runnerWalks wsX8_runnerWalks) := goodIn_app (goodIn_of _ (by decide +kernel)) ggX8_walk_X8_runnerWalks
theorem dX8_walk_0 : decode cX8_walk 0 = .ok (.iload_n 1, 1) := by decide +kernel
theorem dX8_walk_1 : decode cX8_walk 1 = .ok (.invokestatic 113, 3) := by decide +kernel
theorem dX8_walk_4 : decode cX8_walk 4 = .ok (.ifCond .ne 13, 3) := by decide +kernel
theorem dX8_walk_7 : decode cX8_walk 7 = .ok (.new 98, 3) := by decide +kernel
theorem dX8_walk_10 : decode cX8_walk 10 = .ok (.dup, 1) := by decide +kernel
theorem dX8_walk_11 : decode cX8_walk 11 = .ok (.ldc 116, 2) := by decide +kernel
theorem dX8_walk_13 : decode cX8_walk 13 = .ok (.invokespecial 102, 3) := by decide +kernel
theorem dX8_walk_16 : decode cX8_walk 16 = .ok (.athrow, 1) := by decide +kernel
theorem dX8_walk_17 : decode cX8_walk 17 = .ok (.aload_n 0, 1) := by decide +kernel
theorem dX8_walk_18 : decode cX8_walk 18 = .ok (.getfield 19, 3) := by decide +kernel
theorem dX8_walk_21 : decode cX8_walk 21 = .ok (.aload_n 0, 1) := by decide +kernel
theorem dX8_walk_22 : decode cX8_walk 22 = .ok (.getfield 12, 3) := by decide +kernel
theorem dX8_walk_25 : decode cX8_walk 25 = .ok (.invokevirtual 76, 3) := by decide +kernel
theorem dX8_walk_28 : decode cX8_walk 28 = .ok (.aload_n 0, 1) := by decide +kernel
theorem dX8_walk_29 : decode cX8_walk 29 = .ok (.iload_n 1, 1) := by decide +kernel
theorem dX8_walk_30 : decode cX8_walk 30 = .ok (.invokevirtual 118, 3) := by decide +kernel
theorem dX8_walk_33 : decode cX8_walk 33 = .ok (.ireturn, 1) := by decide +kernel
set_option maxRecDepth 20000 in
theorem ggX8_leap_X8_isSide : GoodIn wsX8_leap wsX8_isSide := goodIn_r _ [8] (by decide +kernel) (by decide +kernel)
set_option maxRecDepth 20000 in
theorem gX8_leap_X8_isSide : GoodIn wsX8_leap (va_wsS RX8 113 yX8_isSide wsX8_isSide) := goodIn_app (goodIn_of _ (by decide +kernel)) ggX8_leap_X8_isSide
set_option maxRecDepth 20000 in
theorem ggX8_leap_X8_isRunUp : GoodIn wsX8_leap wsX8_isRunUp := goodIn_r _ [11] (by decide +kernel) (by decide +kernel)
set_option maxRecDepth 20000 in
theorem gX8_leap_X8_isRunUp : GoodIn wsX8_leap (va_wsS RX8 122 yX8_isRunUp wsX8_isRunUp) := goodIn_app (goodIn_of _ (by decide +kernel)) ggX8_leap_X8_isRunUp
set_option maxRecDepth 20000 in
theorem ggX8_leap_X1_save : GoodIn wsX8_leap wsX1_save := goodIn_r _ [16, 17, 18, 19, 20, 21, 15, 22, 23, 24, 25, 26, 27, 28, 29, 30, 31, 32, 33, 34, 35, 36, 37, 38, 109, 110, 111, 112, 113, 114, 115, 116, 117] (by decide +kernel) (by decide +kernel)
set_option maxRecDepth 20000 in
theorem gX8_leap_X1_save : GoodIn wsX8_leap (wsV RX8 76 RX1 yX1_save wsX1_save) := goodIn_app (goodIn_of _ (by decide +kernel)) ggX8_leap_X1_save
set_option maxRecDepth 20000 in
theorem ggX8_leap_X8_runnerLeaps : GoodIn wsX8_leap wsX8_runnerLeaps := goodIn_r _ [42, 4, 43, 44, 45, 46, 47, 48, 49, 50, 51, 52, 53, 54, 26, 55, 56, 57, 58, 59, 60, 61, 62, 63, 28, 64, 65, 66, 67, 68, 69, 70, 71, 72, 73, 74, 75, 76, 77, 78, 79, 80, 81, 7, 82, 83, 84, 85, 86, 87, 88, 89, 90, 91, 92, 93, 94, 95, 96, 97, 98, 99, 100, 101, 102, 103, 104, 105, 106, 107, 108, 111, 112, 113, 114, 115, 116, 117, 118, 119, 120, 121, 122, 123, 124] (by decide +kernel) (by decide +kernel)
set_option maxRecDepth 20000 in
theorem gX8_leap_X8_runnerLeaps : GoodIn wsX8_leap (wsV RX8 127 RX8 yX8_runnerLeaps wsX8_runnerLeaps) := goodIn_app (goodIn_of _ (by decide +kernel)) ggX8_leap_X8_runnerLeaps
theorem dX8_leap_0 : decode cX8_leap 0 = .ok (.iload_n 1, 1) := by decide +kernel
theorem dX8_leap_1 : decode cX8_leap 1 = .ok (.invokestatic 113, 3) := by decide +kernel
theorem dX8_leap_4 : decode cX8_leap 4 = .ok (.ifCond .eq 10, 3) := by decide +kernel
theorem dX8_leap_7 : decode cX8_leap 7 = .ok (.iload_n 2, 1) := by decide +kernel
theorem dX8_leap_8 : decode cX8_leap 8 = .ok (.invokestatic 122, 3) := by decide +kernel
theorem dX8_leap_11 : decode cX8_leap 11 = .ok (.ifCond .ne 13, 3) := by decide +kernel
theorem dX8_leap_14 : decode cX8_leap 14 = .ok (.new 98, 3) := by decide +kernel
theorem dX8_leap_17 : decode cX8_leap 17 = .ok (.dup, 1) := by decide +kernel
theorem dX8_leap_18 : decode cX8_leap 18 = .ok (.ldc 125, 2) := by decide +kernel
theorem dX8_leap_20 : decode cX8_leap 20 = .ok (.invokespecial 102, 3) := by decide +kernel
theorem dX8_leap_23 : decode cX8_leap 23 = .ok (.athrow, 1) := by decide +kernel
theorem dX8_leap_24 : decode cX8_leap 24 = .ok (.aload_n 0, 1) := by decide +kernel
theorem dX8_leap_25 : decode cX8_leap 25 = .ok (.getfield 19, 3) := by decide +kernel
theorem dX8_leap_28 : decode cX8_leap 28 = .ok (.aload_n 0, 1) := by decide +kernel
theorem dX8_leap_29 : decode cX8_leap 29 = .ok (.getfield 12, 3) := by decide +kernel
theorem dX8_leap_32 : decode cX8_leap 32 = .ok (.invokevirtual 76, 3) := by decide +kernel
theorem dX8_leap_35 : decode cX8_leap 35 = .ok (.aload_n 0, 1) := by decide +kernel
theorem dX8_leap_36 : decode cX8_leap 36 = .ok (.iload_n 1, 1) := by decide +kernel
theorem dX8_leap_37 : decode cX8_leap 37 = .ok (.iload_n 2, 1) := by decide +kernel
theorem dX8_leap_38 : decode cX8_leap 38 = .ok (.invokevirtual 127, 3) := by decide +kernel
theorem dX8_leap_41 : decode cX8_leap 41 = .ok (.ireturn, 1) := by decide +kernel
set_option maxRecDepth 20000 in
theorem ggX8_put_X8_isCell : GoodIn wsX8_put wsX8_isCell := goodIn_r _ [12] (by decide +kernel) (by decide +kernel)
set_option maxRecDepth 20000 in
theorem gX8_put_X8_isCell : GoodIn wsX8_put (va_wsS RX8 65 yX8_isCell wsX8_isCell) := goodIn_app (goodIn_of _ (by decide +kernel)) ggX8_put_X8_isCell
set_option maxRecDepth 20000 in
theorem ggX8_put_X1_save : GoodIn wsX8_put wsX1_save := goodIn_r _ [17, 18, 19, 20, 21, 22, 16, 23, 24, 25, 26, 27, 28, 29, 30, 31, 32, 33, 34, 35, 36, 37, 38, 39, 93, 94, 86, 87, 88, 89, 90, 91, 92] (by decide +kernel) (by decide +kernel)
set_option maxRecDepth 20000 in
theorem gX8_put_X1_save : GoodIn wsX8_put (wsV RX8 76 RX1 yX1_save wsX1_save) := goodIn_app (goodIn_of _ (by decide +kernel)) ggX8_put_X1_save
set_option maxRecDepth 20000 in
theorem ggX8_put_X7_canStand : GoodIn wsX8_put wsX7_canStand := goodIn_r _ [43, 44, 45, 46, 27, 47, 29, 86, 87, 88, 89, 90, 91, 92] (by decide +kernel) (by decide +kernel)
set_option maxRecDepth 20000 in
theorem gX8_put_X7_canStand : GoodIn wsX8_put (wsV RX8 130 RX7 yX7_canStand wsX7_canStand) := goodIn_app (goodIn_of _ (by decide +kernel)) ggX8_put_X7_canStand
set_option maxRecDepth 20000 in
theorem ggX8_put_X8_knowMap : GoodIn wsX8_put wsX8_knowMap := goodIn_r _ [51, 52, 8, 4, 53, 54, 55, 56, 57, 58, 59, 60, 41, 42, 27, 43, 44, 45, 46, 47, 29, 61, 62, 63, 64, 65, 66, 67, 68, 11, 69, 70, 71, 76, 77, 78, 79, 80, 81, 82, 83, 84, 85, 95, 96, 97, 98, 99, 86, 87, 88, 89, 90, 91, 92] (by decide +kernel) (by decide +kernel)
set_option maxRecDepth 20000 in
theorem gX8_put_X8_knowMap : GoodIn wsX8_put (wsV RX8 143 RX8 yX8_knowMap wsX8_knowMap) := goodIn_app (goodIn_of _ (by decide +kernel)) ggX8_put_X8_knowMap
set_option maxRecDepth 20000 in
theorem ggX8_put_X2_ledgeAt : GoodIn wsX8_put wsX2_ledgeAt := goodIn_r _ [75, 59, 10, 11, 12, 70, 71, 95, 96, 97, 98, 99] (by decide +kernel) (by decide +kernel)
set_option maxRecDepth 20000 in
theorem gX8_put_X2_ledgeAt : GoodIn wsX8_put (wsV RX8 146 RX2 yX2_ledgeAt wsX2_ledgeAt) := goodIn_app (goodIn_of _ (by decide +kernel)) ggX8_put_X2_ledgeAt
theorem dX8_put_0 : decode cX8_put 0 = .ok (.iload_n 1, 1) := by decide +kernel
theorem dX8_put_1 : decode cX8_put 1 = .ok (.iload_n 2, 1) := by decide +kernel
theorem dX8_put_2 : decode cX8_put 2 = .ok (.invokestatic 65, 3) := by decide +kernel
theorem dX8_put_5 : decode cX8_put 5 = .ok (.ifCond .ne 13, 3) := by decide +kernel
theorem dX8_put_8 : decode cX8_put 8 = .ok (.new 69, 3) := by decide +kernel
theorem dX8_put_11 : decode cX8_put 11 = .ok (.dup, 1) := by decide +kernel
theorem dX8_put_12 : decode cX8_put 12 = .ok (.ldc 71, 2) := by decide +kernel
theorem dX8_put_14 : decode cX8_put 14 = .ok (.invokespecial 73, 3) := by decide +kernel
theorem dX8_put_17 : decode cX8_put 17 = .ok (.athrow, 1) := by decide +kernel
theorem dX8_put_18 : decode cX8_put 18 = .ok (.aload_n 0, 1) := by decide +kernel
theorem dX8_put_19 : decode cX8_put 19 = .ok (.getfield 19, 3) := by decide +kernel
theorem dX8_put_22 : decode cX8_put 22 = .ok (.aload_n 0, 1) := by decide +kernel
theorem dX8_put_23 : decode cX8_put 23 = .ok (.getfield 12, 3) := by decide +kernel
theorem dX8_put_26 : decode cX8_put 26 = .ok (.invokevirtual 76, 3) := by decide +kernel
theorem dX8_put_29 : decode cX8_put 29 = .ok (.aload_n 0, 1) := by decide +kernel
theorem dX8_put_30 : decode cX8_put 30 = .ok (.getfield 12, 3) := by decide +kernel
theorem dX8_put_33 : decode cX8_put 33 = .ok (.iload_n 1, 1) := by decide +kernel
theorem dX8_put_34 : decode cX8_put 34 = .ok (.iload_n 2, 1) := by decide +kernel
theorem dX8_put_35 : decode cX8_put 35 = .ok (.invokevirtual 130, 3) := by decide +kernel
theorem dX8_put_38 : decode cX8_put 38 = .ok (.ifCond .ne 18, 3) := by decide +kernel
theorem dX8_put_41 : decode cX8_put 41 = .ok (.aload_n 0, 1) := by decide +kernel
theorem dX8_put_42 : decode cX8_put 42 = .ok (.getfield 12, 3) := by decide +kernel
theorem dX8_put_45 : decode cX8_put 45 = .ok (.dup, 1) := by decide +kernel
theorem dX8_put_46 : decode cX8_put 46 = .ok (.getfield 133, 3) := by decide +kernel
theorem dX8_put_49 : decode cX8_put 49 = .ok (.iconst 1, 1) := by decide +kernel
theorem dX8_put_50 : decode cX8_put 50 = .ok (.iadd, 1) := by decide +kernel
theorem dX8_put_51 : decode cX8_put 51 = .ok (.putfield 133, 3) := by decide +kernel
theorem dX8_put_54 : decode cX8_put 54 = .ok (.iconst (-1), 1) := by decide +kernel
theorem dX8_put_55 : decode cX8_put 55 = .ok (.ireturn, 1) := by decide +kernel
theorem dX8_put_56 : decode cX8_put 56 = .ok (.aload_n 0, 1) := by decide +kernel
theorem dX8_put_57 : decode cX8_put 57 = .ok (.getfield 12, 3) := by decide +kernel
theorem dX8_put_60 : decode cX8_put 60 = .ok (.iload_n 1, 1) := by decide +kernel
theorem dX8_put_61 : decode cX8_put 61 = .ok (.putfield 137, 3) := by decide +kernel
theorem dX8_put_64 : decode cX8_put 64 = .ok (.aload_n 0, 1) := by decide +kernel
theorem dX8_put_65 : decode cX8_put 65 = .ok (.getfield 12, 3) := by decide +kernel
theorem dX8_put_68 : decode cX8_put 68 = .ok (.iload_n 2, 1) := by decide +kernel
theorem dX8_put_69 : decode cX8_put 69 = .ok (.putfield 140, 3) := by decide +kernel
theorem dX8_put_72 : decode cX8_put 72 = .ok (.aload_n 0, 1) := by decide +kernel
theorem dX8_put_73 : decode cX8_put 73 = .ok (.invokevirtual 143, 3) := by decide +kernel
theorem dX8_put_76 : decode cX8_put 76 = .ok (.aload_n 0, 1) := by decide +kernel
theorem dX8_put_77 : decode cX8_put 77 = .ok (.getfield 47, 3) := by decide +kernel
theorem dX8_put_80 : decode cX8_put 80 = .ok (.iload_n 1, 1) := by decide +kernel
theorem dX8_put_81 : decode cX8_put 81 = .ok (.iload_n 2, 1) := by decide +kernel
theorem dX8_put_82 : decode cX8_put 82 = .ok (.invokevirtual 146, 3) := by decide +kernel
theorem dX8_put_85 : decode cX8_put 85 = .ok (.ireturn, 1) := by decide +kernel
set_option maxRecDepth 20000 in
theorem ggX8_cellOf_X8_isCell : GoodIn wsX8_cellOf wsX8_isCell := goodIn_r _ [8] (by decide +kernel) (by decide +kernel)
set_option maxRecDepth 20000 in
theorem gX8_cellOf_X8_isCell : GoodIn wsX8_cellOf (va_wsS RX8 65 yX8_isCell wsX8_isCell) := goodIn_app (goodIn_of _ (by decide +kernel)) ggX8_cellOf_X8_isCell
set_option maxRecDepth 20000 in
theorem ggX8_cellOf_X8_knowMap : GoodIn wsX8_cellOf wsX8_knowMap := goodIn_r _ [12, 13, 14, 15, 16, 17, 18, 19, 20, 21, 22, 23, 24, 25, 26, 27, 28, 29, 30, 31, 32, 33, 34, 35, 36, 37, 38, 39, 40, 7, 41, 42, 43, 59, 60, 61, 62, 63, 64, 65, 66, 67, 68, 69, 70, 71, 72, 73, 74, 75, 76, 77, 78, 79, 80] (by decide +kernel) (by decide +kernel)
set_option maxRecDepth 20000 in
theorem gX8_cellOf_X8_knowMap : GoodIn wsX8_cellOf (wsV RX8 143 RX8 yX8_knowMap wsX8_knowMap) := goodIn_app (goodIn_of _ (by decide +kernel)) ggX8_cellOf_X8_knowMap
set_option maxRecDepth 20000 in
theorem ggX8_cellOf_X8_cellNumber : GoodIn wsX8_cellOf wsX8_cellNumber := goodIn_r _ [47, 15, 14, 48, 29, 30, 26, 31, 32, 49, 24, 25, 27, 28, 50, 51, 52, 19, 53, 22, 6, 7, 8, 42, 43, 54, 55, 56, 57, 58, 59, 60, 61, 62, 63, 64, 65, 66, 67, 68, 74, 75, 76, 77, 78, 79, 80, 69, 70, 71, 72, 73] (by decide +kernel) (by decide +kernel)
set_option maxRecDepth 20000 in
theorem gX8_cellOf_X8_cellNumber : GoodIn wsX8_cellOf (wsV RX8 221 RX8 yX8_cellNumber wsX8_cellNumber) := goodIn_app (goodIn_of _ (by decide +kernel)) ggX8_cellOf_X8_cellNumber
theorem dX8_cellOf_0 : decode cX8_cellOf 0 = .ok (.iload_n 1, 1) := by decide +kernel
theorem dX8_cellOf_1 : decode cX8_cellOf 1 = .ok (.iload_n 2, 1) := by decide +kernel
theorem dX8_cellOf_2 : decode cX8_cellOf 2 = .ok (.invokestatic 65, 3) := by decide +kernel
theorem dX8_cellOf_5 : decode cX8_cellOf 5 = .ok (.ifCond .ne 13, 3) := by decide +kernel
theorem dX8_cellOf_8 : decode cX8_cellOf 8 = .ok (.new 69, 3) := by decide +kernel
theorem dX8_cellOf_11 : decode cX8_cellOf 11 = .ok (.dup, 1) := by decide +kernel
theorem dX8_cellOf_12 : decode cX8_cellOf 12 = .ok (.ldc 71, 2) := by decide +kernel
theorem dX8_cellOf_14 : decode cX8_cellOf 14 = .ok (.invokespecial 73, 3) := by decide +kernel
theorem dX8_cellOf_17 : decode cX8_cellOf 17 = .ok (.athrow, 1) := by decide +kernel
theorem dX8_cellOf_18 : decode cX8_cellOf 18 = .ok (.iload_n 3, 1) := by decide +kernel
theorem dX8_cellOf_19 : decode cX8_cellOf 19 = .ok (.ifCond .lt 8, 3) := by decide +kernel
theorem dX8_cellOf_22 : decode cX8_cellOf 22 = .ok (.iload_n 3, 1) := by decide +kernel
theorem dX8_cellOf_23 : decode cX8_cellOf 23 = .ok (.iconst 5, 1) := by decide +kernel
theorem dX8_cellOf_24 : decode cX8_cellOf 24 = .ok (.if_icmp .lt 13, 3) := by decide +kernel
theorem dX8_cellOf_27 : decode cX8_cellOf 27 = .ok (.new 98, 3) := by decide +kernel
theorem dX8_cellOf_30 : decode cX8_cellOf 30 = .ok (.dup, 1) := by decide +kernel
theorem dX8_cellOf_31 : decode cX8_cellOf 31 = .ok (.ldc 219, 2) := by decide +kernel
theorem dX8_cellOf_33 : decode cX8_cellOf 33 = .ok (.invokespecial 102, 3) := by decide +kernel
theorem dX8_cellOf_36 : decode cX8_cellOf 36 = .ok (.athrow, 1) := by decide +kernel
theorem dX8_cellOf_37 : decode cX8_cellOf 37 = .ok (.aload_n 0, 1) := by decide +kernel
theorem dX8_cellOf_38 : decode cX8_cellOf 38 = .ok (.invokevirtual 143, 3) := by decide +kernel
theorem dX8_cellOf_41 : decode cX8_cellOf 41 = .ok (.aload_n 0, 1) := by decide +kernel
theorem dX8_cellOf_42 : decode cX8_cellOf 42 = .ok (.iload_n 1, 1) := by decide +kernel
theorem dX8_cellOf_43 : decode cX8_cellOf 43 = .ok (.iload_n 2, 1) := by decide +kernel
theorem dX8_cellOf_44 : decode cX8_cellOf 44 = .ok (.iload_n 3, 1) := by decide +kernel
theorem dX8_cellOf_45 : decode cX8_cellOf 45 = .ok (.invokevirtual 221, 3) := by decide +kernel
theorem dX8_cellOf_48 : decode cX8_cellOf 48 = .ok (.ireturn, 1) := by decide +kernel
set_option maxRecDepth 20000 in
theorem ggX8_ledgeOf_X8_knowMap : GoodIn wsX8_ledgeOf wsX8_knowMap := goodIn_r _ [10, 11, 5, 12, 13, 14, 15, 16, 17, 18, 19, 20, 21, 22, 23, 24, 25, 26, 27, 28, 29, 30, 31, 32, 33, 34, 35, 36, 37, 9, 38, 39, 40, 147, 148, 149, 150, 151, 152, 153, 154, 155, 156, 157, 158, 159, 160, 161, 162, 163, 164, 165, 166, 167, 168] (by decide +kernel) (by decide +kernel)
set_option maxRecDepth 20000 in
theorem gX8_ledgeOf_X8_knowMap : GoodIn wsX8_ledgeOf (wsV RX8 143 RX8 yX8_knowMap wsX8_knowMap) := goodIn_app (goodIn_of _ (by decide +kernel)) ggX8_ledgeOf_X8_knowMap
set_option maxRecDepth 20000 in
theorem ggX8_ledgeOf_X2_has : GoodIn wsX8_ledgeOf wsX2_has := goodIn_r _ [44, 18, 157, 158, 159, 160, 161] (by decide +kernel) (by decide +kernel)
set_option maxRecDepth 20000 in
theorem gX8_ledgeOf_X2_has : GoodIn wsX8_ledgeOf (wsV RX8 225 RX2 yX2_has wsX2_has) := goodIn_app (goodIn_of _ (by decide +kernel)) ggX8_ledgeOf_X2_has
set_option maxRecDepth 20000 in
theorem ggX8_ledgeOf_X8_knowReaches : GoodIn wsX8_ledgeOf wsX8_knowReaches := goodIn_r _ [48, 49, 50, 12, 5, 51, 6, 7, 8, 9, 10, 11, 13, 14, 15, 16, 17, 18, 19, 20, 21, 22, 23, 24, 25, 26, 27, 28, 29, 30, 31, 32, 33, 34, 35, 36, 37, 38, 39, 40, 52, 53, 54, 55, 56, 57, 58, 59, 60, 61, 62, 63, 64, 65, 66, 67, 68, 69, 70, 71, 72, 73, 74, 75, 76, 77, 78, 79, 80, 81, 82, 83, 84, 85, 86, 87, 88, 89, 90, 91, 92, 93, 94, 95, 96, 97, 98, 99, 100, 101, 102, 103, 104, 105, 106, 107, 108, 109, 110, 111, 112, 113, 114, 115, 116, 117, 118, 119, 120, 121, 122, 147, 148, 149, 150, 151, 152, 153, 154, 155, 156, 157, 158, 159, 160, 161, 162, 163, 164, 165, 166, 167, 168, 169, 170, 171, 172, 173, 174, 175, 176, 177, 178, 179, 180, 181, 182, 183] (by decide +kernel) (by decide +kernel)
set_option maxRecDepth 20000 in
theorem gX8_ledgeOf_X8_knowReaches : GoodIn wsX8_ledgeOf (wsV RX8 230 RX8 yX8_knowReaches wsX8_knowReaches) := goodIn_app (goodIn_of _ (by decide +kernel)) ggX8_ledgeOf_X8_knowReaches
set_option maxRecDepth 20000 in
theorem ggX8_ledgeOf_X8_ledgeNumber : GoodIn wsX8_ledgeOf wsX8_ledgeNumber := goodIn_r _ [126, 5, 127, 128, 129, 50, 130, 39, 9, 40, 131, 132, 133, 55, 134, 58, 135, 136, 137, 138, 139, 140, 141, 142, 59, 143, 144, 145, 146, 147, 148, 149, 150, 151, 152, 153, 154, 155, 156, 157, 158, 159, 160, 161, 169, 170, 171] (by decide +kernel) (by decide +kernel)
set_option maxRecDepth 20000 in
theorem gX8_ledgeOf_X8_ledgeNumber : GoodIn wsX8_ledgeOf (wsV RX8 233 RX8 yX8_ledgeNumber wsX8_ledgeNumber) := goodIn_app (goodIn_of _ (by decide +kernel)) ggX8_ledgeOf_X8_ledgeNumber
theorem dX8_ledgeOf_0 : decode cX8_ledgeOf 0 = .ok (.aload_n 0, 1) := by decide +kernel
theorem dX8_ledgeOf_1 : decode cX8_ledgeOf 1 = .ok (.invokevirtual 143, 3) := by decide +kernel
theorem dX8_ledgeOf_4 : decode cX8_ledgeOf 4 = .ok (.aload_n 0, 1) := by decide +kernel
theorem dX8_ledgeOf_5 : decode cX8_ledgeOf 5 = .ok (.getfield 47, 3) := by decide +kernel
theorem dX8_ledgeOf_8 : decode cX8_ledgeOf 8 = .ok (.iload_n 1, 1) := by decide +kernel
theorem dX8_ledgeOf_9 : decode cX8_ledgeOf 9 = .ok (.invokevirtual 225, 3) := by decide +kernel
theorem dX8_ledgeOf_12 : decode cX8_ledgeOf 12 = .ok (.ifCond .ne 13, 3) := by decide +kernel
theorem dX8_ledgeOf_15 : decode cX8_ledgeOf 15 = .ok (.new 69, 3) := by decide +kernel
theorem dX8_ledgeOf_18 : decode cX8_ledgeOf 18 = .ok (.dup, 1) := by decide +kernel
theorem dX8_ledgeOf_19 : decode cX8_ledgeOf 19 = .ok (.ldc 226, 2) := by decide +kernel
theorem dX8_ledgeOf_21 : decode cX8_ledgeOf 21 = .ok (.invokespecial 73, 3) := by decide +kernel
theorem dX8_ledgeOf_24 : decode cX8_ledgeOf 24 = .ok (.athrow, 1) := by decide +kernel
theorem dX8_ledgeOf_25 : decode cX8_ledgeOf 25 = .ok (.iload_n 2, 1) := by decide +kernel
theorem dX8_ledgeOf_26 : decode cX8_ledgeOf 26 = .ok (.ifCond .lt 9, 3) := by decide +kernel
theorem dX8_ledgeOf_29 : decode cX8_ledgeOf 29 = .ok (.iload_n 2, 1) := by decide +kernel
theorem dX8_ledgeOf_30 : decode cX8_ledgeOf 30 = .ok (.bipush 6, 2) := by decide +kernel
theorem dX8_ledgeOf_32 : decode cX8_ledgeOf 32 = .ok (.if_icmp .lt 13, 3) := by decide +kernel
theorem dX8_ledgeOf_35 : decode cX8_ledgeOf 35 = .ok (.new 98, 3) := by decide +kernel
theorem dX8_ledgeOf_38 : decode cX8_ledgeOf 38 = .ok (.dup, 1) := by decide +kernel
theorem dX8_ledgeOf_39 : decode cX8_ledgeOf 39 = .ok (.ldc 228, 2) := by decide +kernel
theorem dX8_ledgeOf_41 : decode cX8_ledgeOf 41 = .ok (.invokespecial 102, 3) := by decide +kernel
theorem dX8_ledgeOf_44 : decode cX8_ledgeOf 44 = .ok (.athrow, 1) := by decide +kernel
theorem dX8_ledgeOf_45 : decode cX8_ledgeOf 45 = .ok (.iload_n 2, 1) := by decide +kernel
theorem dX8_ledgeOf_46 : decode cX8_ledgeOf 46 = .ok (.iconst 3, 1) := by decide +kernel
theorem dX8_ledgeOf_47 : decode cX8_ledgeOf 47 = .ok (.if_icmp .lt 7, 3) := by decide +kernel
theorem dX8_ledgeOf_50 : decode cX8_ledgeOf 50 = .ok (.aload_n 0, 1) := by decide +kernel
theorem dX8_ledgeOf_51 : decode cX8_ledgeOf 51 = .ok (.invokevirtual 230, 3) := by decide +kernel
theorem dX8_ledgeOf_54 : decode cX8_ledgeOf 54 = .ok (.aload_n 0, 1) := by decide +kernel
theorem dX8_ledgeOf_55 : decode cX8_ledgeOf 55 = .ok (.iload_n 1, 1) := by decide +kernel
theorem dX8_ledgeOf_56 : decode cX8_ledgeOf 56 = .ok (.iload_n 2, 1) := by decide +kernel
theorem dX8_ledgeOf_57 : decode cX8_ledgeOf 57 = .ok (.invokevirtual 233, 3) := by decide +kernel
theorem dX8_ledgeOf_60 : decode cX8_ledgeOf 60 = .ok (.ireturn, 1) := by decide +kernel
set_option maxRecDepth 20000 in
theorem ggX8_count_X8_knowMap : GoodIn wsX8_count wsX8_knowMap := goodIn_r _ [7, 8, 9, 10, 11, 12, 13, 14, 15, 16, 17, 18, 19, 20, 21, 22, 23, 24, 25, 26, 27, 28, 29, 30, 31, 32, 33, 34, 35, 6, 36, 37, 38, 180, 181, 182, 183, 184, 185, 186, 187, 188, 189, 190, 191, 192, 193, 194, 195, 196, 197, 198, 199, 200, 201] (by decide +kernel) (by decide +kernel)
set_option maxRecDepth 20000 in
theorem gX8_count_X8_knowMap : GoodIn wsX8_count (wsV RX8 143 RX8 yX8_knowMap wsX8_knowMap) := goodIn_app (goodIn_of _ (by decide +kernel)) ggX8_count_X8_knowMap
set_option maxRecDepth 20000 in
theorem ggX8_count_X8_knowReaches : GoodIn wsX8_count wsX8_knowReaches := goodIn_r _ [42, 43, 44, 10, 9, 45, 3, 4, 5, 6, 7, 8, 11, 12, 13, 14, 15, 16, 17, 18, 19, 20, 21, 22, 23, 24, 25, 26, 27, 28, 29, 30, 31, 32, 33, 34, 35, 36, 37, 38, 46, 47, 48, 49, 50, 51, 52, 53, 54, 55, 56, 57, 58, 59, 60, 61, 62, 63, 64, 65, 66, 67, 68, 69, 70, 71, 72, 73, 74, 75, 76, 77, 78, 79, 80, 81, 82, 83, 84, 85, 86, 87, 88, 89, 90, 91, 92, 93, 94, 95, 96, 97, 98, 99, 100, 101, 102, 103, 104, 105, 106, 107, 108, 109, 110, 111, 112, 113, 114, 115, 116, 180, 181, 182, 183, 184, 185, 186, 187, 188, 189, 190, 191, 192, 193, 194, 195, 196, 197, 198, 199, 200, 201, 202, 203, 204, 205, 206, 207, 208, 209, 210, 211, 212, 213, 214, 215, 216] (by decide +kernel) (by decide +kernel)
set_option maxRecDepth 20000 in
theorem gX8_count_X8_knowReaches : GoodIn wsX8_count (wsV RX8 230 RX8 yX8_knowReaches wsX8_knowReaches) := goodIn_app (goodIn_of _ (by decide +kernel)) ggX8_count_X8_knowReaches
set_option maxRecDepth 20000 in
theorem ggX8_count_X8_spreadFromRunner : GoodIn wsX8_count wsX8_spreadFromRunner := goodIn_r _ [120, 45, 44, 121, 122, 123, 6, 124, 9, 10, 125, 126, 127, 66, 67, 14, 68, 17, 69, 70, 37, 38, 128, 129, 130, 112, 131, 114, 132, 133, 134, 35, 36, 135, 136, 137, 138, 139, 140, 141, 49, 142, 143, 144, 145, 146, 53, 180, 181, 182, 183, 184, 185, 186, 187, 188, 189, 195, 196, 197, 198, 199, 200, 201, 190, 191, 192, 193, 194, 212, 213, 214, 215, 216, 202, 203, 204] (by decide +kernel) (by decide +kernel)
set_option maxRecDepth 20000 in
theorem gX8_count_X8_spreadFromRunner : GoodIn wsX8_count (wsV RX8 238 RX8 yX8_spreadFromRunner wsX8_spreadFromRunner) := goodIn_app (goodIn_of _ (by decide +kernel)) ggX8_count_X8_spreadFromRunner
set_option maxRecDepth 20000 in
theorem ggX8_count_X8_countedNumber : GoodIn wsX8_count wsX8_countedNumber := goodIn_r _ [150, 10, 9, 151, 125, 126, 152, 153, 154, 155, 156, 157, 158, 159, 21, 160, 27, 161, 162, 163, 164, 165, 166, 167, 121, 122, 123, 6, 124, 127, 66, 67, 14, 68, 17, 69, 70, 37, 38, 168, 169, 170, 171, 172, 173, 174, 175, 45, 176, 177, 178, 112, 179, 133, 180, 181, 182, 183, 184, 185, 186, 187, 188, 189, 190, 191, 192, 193, 194, 195, 196, 197, 198, 199, 200, 201, 217, 218, 212, 213, 214, 215, 216] (by decide +kernel) (by decide +kernel)
set_option maxRecDepth 20000 in
theorem gX8_count_X8_countedNumber : GoodIn wsX8_count (wsV RX8 241 RX8 yX8_countedNumber wsX8_countedNumber) := goodIn_app (goodIn_of _ (by decide +kernel)) ggX8_count_X8_countedNumber
theorem dX8_count_0 : decode cX8_count 0 = .ok (.iload_n 1, 1) := by decide +kernel
theorem dX8_count_1 : decode cX8_count 1 = .ok (.ifCond .lt 9, 3) := by decide +kernel
theorem dX8_count_4 : decode cX8_count 4 = .ok (.iload_n 1, 1) := by decide +kernel
theorem dX8_count_5 : decode cX8_count 5 = .ok (.bipush 10, 2) := by decide +kernel
theorem dX8_count_7 : decode cX8_count 7 = .ok (.if_icmp .lt 13, 3) := by decide +kernel
theorem dX8_count_10 : decode cX8_count 10 = .ok (.new 98, 3) := by decide +kernel
theorem dX8_count_13 : decode cX8_count 13 = .ok (.dup, 1) := by decide +kernel
theorem dX8_count_14 : decode cX8_count 14 = .ok (.ldc 236, 2) := by decide +kernel
theorem dX8_count_16 : decode cX8_count 16 = .ok (.invokespecial 102, 3) := by decide +kernel
theorem dX8_count_19 : decode cX8_count 19 = .ok (.athrow, 1) := by decide +kernel
theorem dX8_count_20 : decode cX8_count 20 = .ok (.aload_n 0, 1) := by decide +kernel
theorem dX8_count_21 : decode cX8_count 21 = .ok (.invokevirtual 143, 3) := by decide +kernel
theorem dX8_count_24 : decode cX8_count 24 = .ok (.iload_n 1, 1) := by decide +kernel
theorem dX8_count_25 : decode cX8_count 25 = .ok (.bipush 8, 2) := by decide +kernel
theorem dX8_count_27 : decode cX8_count 27 = .ok (.if_icmp .ne 11, 3) := by decide +kernel
theorem dX8_count_30 : decode cX8_count 30 = .ok (.aload_n 0, 1) := by decide +kernel
theorem dX8_count_31 : decode cX8_count 31 = .ok (.invokevirtual 230, 3) := by decide +kernel
theorem dX8_count_34 : decode cX8_count 34 = .ok (.aload_n 0, 1) := by decide +kernel
theorem dX8_count_35 : decode cX8_count 35 = .ok (.invokevirtual 238, 3) := by decide +kernel
theorem dX8_count_38 : decode cX8_count 38 = .ok (.aload_n 0, 1) := by decide +kernel
theorem dX8_count_39 : decode cX8_count 39 = .ok (.iload_n 1, 1) := by decide +kernel
theorem dX8_count_40 : decode cX8_count 40 = .ok (.invokevirtual 241, 3) := by decide +kernel
theorem dX8_count_43 : decode cX8_count 43 = .ok (.ireturn, 1) := by decide +kernel
set_option maxRecDepth 20000 in
theorem ggX8_setting_X8_isSetting : GoodIn wsX8_setting wsX8_isSetting := goodIn_r _ [8] (by decide +kernel) (by decide +kernel)
set_option maxRecDepth 20000 in
theorem gX8_setting_X8_isSetting : GoodIn wsX8_setting (va_wsS RX8 84 yX8_isSetting wsX8_isSetting) := goodIn_app (goodIn_of _ (by decide +kernel)) ggX8_setting_X8_isSetting
set_option maxRecDepth 20000 in
theorem ggX8_setting_X8_at : GoodIn wsX8_setting wsX8_at := goodIn_r _ [11] (by decide +kernel) (by decide +kernel)
set_option maxRecDepth 20000 in
theorem gX8_setting_X8_at : GoodIn wsX8_setting (va_wsS RX8 94 yX8_at wsX8_at) := goodIn_app (goodIn_of _ (by decide +kernel)) ggX8_setting_X8_at
theorem dX8_setting_0 : decode cX8_setting 0 = .ok (.iload_n 1, 1) := by decide +kernel
theorem dX8_setting_1 : decode cX8_setting 1 = .ok (.invokestatic 84, 3) := by decide +kernel
theorem dX8_setting_4 : decode cX8_setting 4 = .ok (.ifCond .ne 13, 3) := by decide +kernel
theorem dX8_setting_7 : decode cX8_setting 7 = .ok (.new 69, 3) := by decide +kernel
theorem dX8_setting_10 : decode cX8_setting 10 = .ok (.dup, 1) := by decide +kernel
theorem dX8_setting_11 : decode cX8_setting 11 = .ok (.ldc 88, 2) := by decide +kernel
theorem dX8_setting_13 : decode cX8_setting 13 = .ok (.invokespecial 73, 3) := by decide +kernel
theorem dX8_setting_16 : decode cX8_setting 16 = .ok (.athrow, 1) := by decide +kernel
theorem dX8_setting_17 : decode cX8_setting 17 = .ok (.aload_n 0, 1) := by decide +kernel
theorem dX8_setting_18 : decode cX8_setting 18 = .ok (.getfield 12, 3) := by decide +kernel
theorem dX8_setting_21 : decode cX8_setting 21 = .ok (.getfield 103, 3) := by decide +kernel
theorem dX8_setting_24 : decode cX8_setting 24 = .ok (.iload_n 1, 1) := by decide +kernel
theorem dX8_setting_25 : decode cX8_setting 25 = .ok (.invokestatic 94, 3) := by decide +kernel
theorem dX8_setting_28 : decode cX8_setting 28 = .ok (.ireturn, 1) := by decide +kernel
set_option maxRecDepth 20000 in
theorem ggX8_arc_X8_arcNumber : GoodIn wsX8_arc wsX8_arcNumber := goodIn_r _ [7, 8, 9, 10, 11, 6, 12, 13, 14, 15, 16, 17, 18, 19, 20, 21, 22, 23, 24, 25, 26, 27, 28, 29, 30, 31, 32, 33, 34, 35, 36, 37, 38, 39, 40, 41, 42] (by decide +kernel) (by decide +kernel)
set_option maxRecDepth 20000 in
theorem gX8_arc_X8_arcNumber : GoodIn wsX8_arc (wsV RX8 246 RX8 yX8_arcNumber wsX8_arcNumber) := goodIn_app (goodIn_of _ (by decide +kernel)) ggX8_arc_X8_arcNumber
theorem dX8_arc_0 : decode cX8_arc 0 = .ok (.iload_n 1, 1) := by decide +kernel
theorem dX8_arc_1 : decode cX8_arc 1 = .ok (.ifCond .lt 18, 3) := by decide +kernel
theorem dX8_arc_4 : decode cX8_arc 4 = .ok (.iload_n 1, 1) := by decide +kernel
theorem dX8_arc_5 : decode cX8_arc 5 = .ok (.bipush 30, 2) := by decide +kernel
theorem dX8_arc_7 : decode cX8_arc 7 = .ok (.if_icmp .gt 12, 3) := by decide +kernel
theorem dX8_arc_10 : decode cX8_arc 10 = .ok (.iload_n 2, 1) := by decide +kernel
theorem dX8_arc_11 : decode cX8_arc 11 = .ok (.ifCond .lt 8, 3) := by decide +kernel
theorem dX8_arc_14 : decode cX8_arc 14 = .ok (.iload_n 2, 1) := by decide +kernel
theorem dX8_arc_15 : decode cX8_arc 15 = .ok (.iconst 1, 1) := by decide +kernel
theorem dX8_arc_16 : decode cX8_arc 16 = .ok (.if_icmp .le 13, 3) := by decide +kernel
theorem dX8_arc_19 : decode cX8_arc 19 = .ok (.new 98, 3) := by decide +kernel
theorem dX8_arc_22 : decode cX8_arc 22 = .ok (.dup, 1) := by decide +kernel
theorem dX8_arc_23 : decode cX8_arc 23 = .ok (.ldc 244, 2) := by decide +kernel
theorem dX8_arc_25 : decode cX8_arc 25 = .ok (.invokespecial 102, 3) := by decide +kernel
theorem dX8_arc_28 : decode cX8_arc 28 = .ok (.athrow, 1) := by decide +kernel
theorem dX8_arc_29 : decode cX8_arc 29 = .ok (.aload_n 0, 1) := by decide +kernel
theorem dX8_arc_30 : decode cX8_arc 30 = .ok (.iload_n 1, 1) := by decide +kernel
theorem dX8_arc_31 : decode cX8_arc 31 = .ok (.iload_n 2, 1) := by decide +kernel
theorem dX8_arc_32 : decode cX8_arc 32 = .ok (.invokevirtual 246, 3) := by decide +kernel
theorem dX8_arc_35 : decode cX8_arc 35 = .ok (.ireturn, 1) := by decide +kernel
set_option maxRecDepth 20000 in
theorem ggX8_ifLeapt_X8_isCell : GoodIn wsX8_ifLeapt wsX8_isCell := goodIn_r _ [8] (by decide +kernel) (by decide +kernel)
set_option maxRecDepth 20000 in
theorem gX8_ifLeapt_X8_isCell : GoodIn wsX8_ifLeapt (va_wsS RX8 65 yX8_isCell wsX8_isCell) := goodIn_app (goodIn_of _ (by decide +kernel)) ggX8_ifLeapt_X8_isCell
set_option maxRecDepth 20000 in
theorem ggX8_ifLeapt_X8_isSide : GoodIn wsX8_ifLeapt wsX8_isSide := goodIn_r _ [11] (by decide +kernel) (by decide +kernel)
set_option maxRecDepth 20000 in
theorem gX8_ifLeapt_X8_isSide : GoodIn wsX8_ifLeapt (va_wsS RX8 113 yX8_isSide wsX8_isSide) := goodIn_app (goodIn_of _ (by decide +kernel)) ggX8_ifLeapt_X8_isSide
set_option maxRecDepth 20000 in
theorem ggX8_ifLeapt_X8_isRunUp : GoodIn wsX8_ifLeapt wsX8_isRunUp := goodIn_r _ [14] (by decide +kernel) (by decide +kernel)
set_option maxRecDepth 20000 in
theorem gX8_ifLeapt_X8_isRunUp : GoodIn wsX8_ifLeapt (va_wsS RX8 122 yX8_isRunUp wsX8_isRunUp) := goodIn_app (goodIn_of _ (by decide +kernel)) ggX8_ifLeapt_X8_isRunUp
set_option maxRecDepth 20000 in
theorem ggX8_ifLeapt_X8_leapNumber : GoodIn wsX8_ifLeapt wsX8_leapNumber := goodIn_r _ [18, 19, 20, 21, 22, 23, 24, 25, 26, 27, 28, 29, 30, 31, 32, 33, 34, 35, 36, 37, 38, 39, 40, 41, 42, 43, 44, 45, 46, 47, 48, 49, 50, 51, 52, 53, 54, 55, 56, 57, 7, 58, 59, 60, 61, 62, 63, 64, 65, 66, 67, 68, 69, 70, 71, 72, 73, 74, 75, 76, 77, 78, 79, 80, 81, 82, 83, 84, 85, 86, 87, 88, 89, 90, 91, 92, 93, 94, 95, 96, 97, 98] (by decide +kernel) (by decide +kernel)
set_option maxRecDepth 20000 in
theorem gX8_ifLeapt_X8_leapNumber : GoodIn wsX8_ifLeapt (wsV RX8 249 RX8 yX8_leapNumber wsX8_leapNumber) := goodIn_app (goodIn_of _ (by decide +kernel)) ggX8_ifLeapt_X8_leapNumber
theorem dX8_ifLeapt_0 : decode cX8_ifLeapt 0 = .ok (.iload_n 1, 1) := by decide +kernel
theorem dX8_ifLeapt_1 : decode cX8_ifLeapt 1 = .ok (.iload_n 2, 1) := by decide +kernel
theorem dX8_ifLeapt_2 : decode cX8_ifLeapt 2 = .ok (.invokestatic 65, 3) := by decide +kernel
theorem dX8_ifLeapt_5 : decode cX8_ifLeapt 5 = .ok (.ifCond .ne 13, 3) := by decide +kernel
theorem dX8_ifLeapt_8 : decode cX8_ifLeapt 8 = .ok (.new 69, 3) := by decide +kernel
theorem dX8_ifLeapt_11 : decode cX8_ifLeapt 11 = .ok (.dup, 1) := by decide +kernel
theorem dX8_ifLeapt_12 : decode cX8_ifLeapt 12 = .ok (.ldc 71, 2) := by decide +kernel
theorem dX8_ifLeapt_14 : decode cX8_ifLeapt 14 = .ok (.invokespecial 73, 3) := by decide +kernel
theorem dX8_ifLeapt_17 : decode cX8_ifLeapt 17 = .ok (.athrow, 1) := by decide +kernel
theorem dX8_ifLeapt_18 : decode cX8_ifLeapt 18 = .ok (.iload_n 3, 1) := by decide +kernel
theorem dX8_ifLeapt_19 : decode cX8_ifLeapt 19 = .ok (.invokestatic 113, 3) := by decide +kernel
theorem dX8_ifLeapt_22 : decode cX8_ifLeapt 22 = .ok (.ifCond .eq 22, 3) := by decide +kernel
theorem dX8_ifLeapt_25 : decode cX8_ifLeapt 25 = .ok (.iload 4, 2) := by decide +kernel
theorem dX8_ifLeapt_27 : decode cX8_ifLeapt 27 = .ok (.invokestatic 122, 3) := by decide +kernel
theorem dX8_ifLeapt_30 : decode cX8_ifLeapt 30 = .ok (.ifCond .eq 14, 3) := by decide +kernel
theorem dX8_ifLeapt_33 : decode cX8_ifLeapt 33 = .ok (.iload 5, 2) := by decide +kernel
theorem dX8_ifLeapt_35 : decode cX8_ifLeapt 35 = .ok (.ifCond .lt 9, 3) := by decide +kernel
theorem dX8_ifLeapt_38 : decode cX8_ifLeapt 38 = .ok (.iload 5, 2) := by decide +kernel
theorem dX8_ifLeapt_40 : decode cX8_ifLeapt 40 = .ok (.iconst 5, 1) := by decide +kernel
theorem dX8_ifLeapt_41 : decode cX8_ifLeapt 41 = .ok (.if_icmp .lt 13, 3) := by decide +kernel
theorem dX8_ifLeapt_44 : decode cX8_ifLeapt 44 = .ok (.new 98, 3) := by decide +kernel
theorem dX8_ifLeapt_47 : decode cX8_ifLeapt 47 = .ok (.dup, 1) := by decide +kernel
theorem dX8_ifLeapt_48 : decode cX8_ifLeapt 48 = .ok (.ldc 125, 2) := by decide +kernel
theorem dX8_ifLeapt_50 : decode cX8_ifLeapt 50 = .ok (.invokespecial 102, 3) := by decide +kernel
theorem dX8_ifLeapt_53 : decode cX8_ifLeapt 53 = .ok (.athrow, 1) := by decide +kernel
theorem dX8_ifLeapt_54 : decode cX8_ifLeapt 54 = .ok (.aload_n 0, 1) := by decide +kernel
theorem dX8_ifLeapt_55 : decode cX8_ifLeapt 55 = .ok (.iload_n 1, 1) := by decide +kernel
theorem dX8_ifLeapt_56 : decode cX8_ifLeapt 56 = .ok (.iload_n 2, 1) := by decide +kernel
theorem dX8_ifLeapt_57 : decode cX8_ifLeapt 57 = .ok (.iload_n 3, 1) := by decide +kernel
theorem dX8_ifLeapt_58 : decode cX8_ifLeapt 58 = .ok (.iload 4, 2) := by decide +kernel
theorem dX8_ifLeapt_60 : decode cX8_ifLeapt 60 = .ok (.iload 5, 2) := by decide +kernel
theorem dX8_ifLeapt_62 : decode cX8_ifLeapt 62 = .ok (.invokevirtual 249, 3) := by decide +kernel
theorem dX8_ifLeapt_65 : decode cX8_ifLeapt 65 = .ok (.ireturn, 1) := by decide +kernel
set_option maxRecDepth 20000 in
theorem ggX8_slowest_X8_knowMap : GoodIn wsX8_slowest wsX8_knowMap := goodIn_r _ [9, 10, 3, 11, 12, 13, 14, 15, 16, 17, 18, 19, 20, 21, 22, 23, 24, 25, 26, 27, 28, 29, 30, 31, 32, 33, 34, 35, 36, 8, 37, 38, 39, 125, 126, 127, 128, 129, 130, 131, 132, 133, 134, 135, 136, 137, 138, 139, 140, 141, 142, 143, 144, 145, 146] (by decide +kernel) (by decide +kernel)
set_option maxRecDepth 20000 in
theorem gX8_slowest_X8_knowMap : GoodIn wsX8_slowest (wsV RX8 143 RX8 yX8_knowMap wsX8_knowMap) := goodIn_app (goodIn_of _ (by decide +kernel)) ggX8_slowest_X8_knowMap
set_option maxRecDepth 20000 in
theorem ggX8_slowest_X2_has : GoodIn wsX8_slowest wsX2_has := goodIn_r _ [43, 17, 135, 136, 137, 138, 139] (by decide +kernel) (by decide +kernel)
set_option maxRecDepth 20000 in
theorem gX8_slowest_X2_has : GoodIn wsX8_slowest (wsV RX8 225 RX2 yX2_has wsX2_has) := goodIn_app (goodIn_of _ (by decide +kernel)) ggX8_slowest_X2_has
set_option maxRecDepth 20000 in
theorem ggX8_slowest_X8_knowReaches : GoodIn wsX8_slowest wsX8_knowReaches := goodIn_r _ [47, 48, 4, 11, 3, 49, 5, 6, 7, 8, 9, 10, 12, 13, 14, 15, 16, 17, 18, 19, 20, 21, 22, 23, 24, 25, 26, 27, 28, 29, 30, 31, 32, 33, 34, 35, 36, 37, 38, 39, 50, 51, 52, 53, 54, 55, 56, 57, 58, 59, 60, 61, 62, 63, 64, 65, 66, 67, 68, 69, 70, 71, 72, 73, 74, 75, 76, 77, 78, 79, 80, 81, 82, 83, 84, 85, 86, 87, 88, 89, 90, 91, 92, 93, 94, 95, 96, 97, 98, 99, 100, 101, 102, 103, 104, 105, 106, 107, 108, 109, 110, 111, 112, 113, 114, 115, 116, 117, 118, 119, 120, 125, 126, 127, 128, 129, 130, 131, 132, 133, 134, 135, 136, 137, 138, 139, 140, 141, 142, 143, 144, 145, 146, 147, 148, 149, 150, 151, 152, 153, 154, 155, 156, 157, 158, 159, 160, 161] (by decide +kernel) (by decide +kernel)
set_option maxRecDepth 20000 in
theorem gX8_slowest_X8_knowReaches : GoodIn wsX8_slowest (wsV RX8 230 RX8 yX8_knowReaches wsX8_knowReaches) := goodIn_app (goodIn_of _ (by decide +kernel)) ggX8_slowest_X8_knowReaches
set_option maxRecDepth 20000 in
theorem ggX8_slowest_X4_leastRunUp : GoodIn wsX8_slowest wsX4_leastRunUp := goodIn_r _ [124, 57, 38, 8, 39, 147, 148, 149] (by decide +kernel) (by decide +kernel)
set_option maxRecDepth 20000 in
theorem gX8_slowest_X4_leastRunUp : GoodIn wsX8_slowest (wsV RX8 253 RX4 yX4_leastRunUp wsX4_leastRunUp) := goodIn_app (goodIn_of _ (by decide +kernel)) ggX8_slowest_X4_leastRunUp
theorem dX8_slowest_0 : decode cX8_slowest 0 = .ok (.aload_n 0, 1) := by decide +kernel
theorem dX8_slowest_1 : decode cX8_slowest 1 = .ok (.invokevirtual 143, 3) := by decide +kernel
theorem dX8_slowest_4 : decode cX8_slowest 4 = .ok (.aload_n 0, 1) := by decide +kernel
theorem dX8_slowest_5 : decode cX8_slowest 5 = .ok (.getfield 47, 3) := by decide +kernel
theorem dX8_slowest_8 : decode cX8_slowest 8 = .ok (.iload_n 1, 1) := by decide +kernel
theorem dX8_slowest_9 : decode cX8_slowest 9 = .ok (.invokevirtual 225, 3) := by decide +kernel
theorem dX8_slowest_12 : decode cX8_slowest 12 = .ok (.ifCond .eq 14, 3) := by decide +kernel
theorem dX8_slowest_15 : decode cX8_slowest 15 = .ok (.aload_n 0, 1) := by decide +kernel
theorem dX8_slowest_16 : decode cX8_slowest 16 = .ok (.getfield 47, 3) := by decide +kernel
theorem dX8_slowest_19 : decode cX8_slowest 19 = .ok (.iload_n 2, 1) := by decide +kernel
theorem dX8_slowest_20 : decode cX8_slowest 20 = .ok (.invokevirtual 225, 3) := by decide +kernel
theorem dX8_slowest_23 : decode cX8_slowest 23 = .ok (.ifCond .ne 13, 3) := by decide +kernel
theorem dX8_slowest_26 : decode cX8_slowest 26 = .ok (.new 69, 3) := by decide +kernel
theorem dX8_slowest_29 : decode cX8_slowest 29 = .ok (.dup, 1) := by decide +kernel
theorem dX8_slowest_30 : decode cX8_slowest 30 = .ok (.ldc 226, 2) := by decide +kernel
theorem dX8_slowest_32 : decode cX8_slowest 32 = .ok (.invokespecial 73, 3) := by decide +kernel
theorem dX8_slowest_35 : decode cX8_slowest 35 = .ok (.athrow, 1) := by decide +kernel
theorem dX8_slowest_36 : decode cX8_slowest 36 = .ok (.aload_n 0, 1) := by decide +kernel
theorem dX8_slowest_37 : decode cX8_slowest 37 = .ok (.invokevirtual 230, 3) := by decide +kernel
theorem dX8_slowest_40 : decode cX8_slowest 40 = .ok (.aload_n 0, 1) := by decide +kernel
theorem dX8_slowest_41 : decode cX8_slowest 41 = .ok (.getfield 54, 3) := by decide +kernel
theorem dX8_slowest_44 : decode cX8_slowest 44 = .ok (.iload_n 1, 1) := by decide +kernel
theorem dX8_slowest_45 : decode cX8_slowest 45 = .ok (.iload_n 2, 1) := by decide +kernel
theorem dX8_slowest_46 : decode cX8_slowest 46 = .ok (.invokevirtual 253, 3) := by decide +kernel
theorem dX8_slowest_49 : decode cX8_slowest 49 = .ok (.ireturn, 1) := by decide +kernel
set_option maxRecDepth 20000 in
theorem ggX8_fewest_X8_knowMap : GoodIn wsX8_fewest wsX8_knowMap := goodIn_r _ [12, 13, 5, 14, 15, 16, 17, 18, 19, 20, 21, 22, 23, 24, 25, 26, 27, 28, 29, 30, 31, 32, 33, 34, 35, 36, 37, 38, 39, 11, 40, 41, 42, 166, 167, 168, 169, 170, 171, 172, 173, 174, 175, 176, 177, 178, 179, 180, 181, 182, 183, 184, 185, 186, 187] (by decide +kernel) (by decide +kernel)
set_option maxRecDepth 20000 in
theorem gX8_fewest_X8_knowMap : GoodIn wsX8_fewest (wsV RX8 143 RX8 yX8_knowMap wsX8_knowMap) := goodIn_app (goodIn_of _ (by decide +kernel)) ggX8_fewest_X8_knowMap
set_option maxRecDepth 20000 in
theorem ggX8_fewest_X2_has : GoodIn wsX8_fewest wsX2_has := goodIn_r _ [46, 20, 176, 177, 178, 179, 180] (by decide +kernel) (by decide +kernel)
set_option maxRecDepth 20000 in
theorem gX8_fewest_X2_has : GoodIn wsX8_fewest (wsV RX8 225 RX2 yX2_has wsX2_has) := goodIn_app (goodIn_of _ (by decide +kernel)) ggX8_fewest_X2_has
set_option maxRecDepth 20000 in
theorem ggX8_fewest_X8_isRunUp : GoodIn wsX8_fewest wsX8_isRunUp := goodIn_r _ [49] (by decide +kernel) (by decide +kernel)
set_option maxRecDepth 20000 in
theorem gX8_fewest_X8_isRunUp : GoodIn wsX8_fewest (va_wsS RX8 122 yX8_isRunUp wsX8_isRunUp) := goodIn_app (goodIn_of _ (by decide +kernel)) ggX8_fewest_X8_isRunUp
set_option maxRecDepth 20000 in
theorem ggX8_fewest_X8_knowReaches : GoodIn wsX8_fewest wsX8_knowReaches := goodIn_r _ [53, 54, 7, 14, 5, 6, 8, 9, 10, 11, 12, 13, 15, 16, 17, 18, 19, 20, 21, 22, 23, 24, 25, 26, 27, 28, 29, 30, 31, 32, 33, 34, 35, 36, 37, 38, 39, 40, 41, 42, 55, 56, 57, 58, 59, 60, 61, 62, 63, 64, 65, 66, 67, 68, 69, 70, 71, 72, 73, 74, 75, 76, 77, 78, 79, 80, 81, 82, 83, 84, 85, 86, 87, 88, 89, 90, 91, 92, 93, 94, 95, 96, 97, 98, 99, 100, 101, 102, 103, 104, 105, 106, 107, 108, 109, 110, 111, 112, 113, 114, 115, 116, 117, 118, 119, 120, 121, 122, 123, 124, 125, 166, 167, 168, 169, 170, 171, 172, 173, 174, 175, 176, 177, 178, 179, 180, 181, 182, 183, 184, 185, 186, 187, 188, 189, 190, 191, 192, 193, 194, 195, 196, 197, 198, 199, 200, 201, 202] (by decide +kernel) (by decide +kernel)
set_option maxRecDepth 20000 in
theorem gX8_fewest_X8_knowReaches : GoodIn wsX8_fewest (wsV RX8 230 RX8 yX8_knowReaches wsX8_knowReaches) := goodIn_app (goodIn_of _ (by decide +kernel)) ggX8_fewest_X8_knowReaches
set_option maxRecDepth 20000 in
theorem ggX8_fewest_X5_spreadFrom : GoodIn wsX8_fewest wsX5_spreadFrom := goodIn_r _ [129, 123, 130, 131, 132, 41, 11, 42, 39, 40, 133, 134, 135, 121, 136, 137, 138, 139, 58, 140, 141, 142, 143, 144, 62, 198, 199, 200, 201, 202, 188, 189, 190] (by decide +kernel) (by decide +kernel)
set_option maxRecDepth 20000 in
theorem gX8_fewest_X5_spreadFrom : GoodIn wsX8_fewest (wsV RX8 258 RX5 yX5_spreadFrom wsX5_spreadFrom) := goodIn_app (goodIn_of _ (by decide +kernel)) ggX8_fewest_X5_spreadFrom
set_option maxRecDepth 20000 in
theorem ggX8_fewest_X5_leapsBySpreading : GoodIn wsX8_fewest wsX5_leapsBySpreading := goodIn_r _ [148, 131, 41, 11, 42, 198, 199, 200, 201, 202] (by decide +kernel) (by decide +kernel)
set_option maxRecDepth 20000 in
theorem gX8_fewest_X5_leapsBySpreading : GoodIn wsX8_fewest (wsV RX8 262 RX5 yX5_leapsBySpreading wsX5_leapsBySpreading) := goodIn_app (goodIn_of _ (by decide +kernel)) ggX8_fewest_X5_leapsBySpreading
set_option maxRecDepth 20000 in
theorem ggX8_fewest_X5_makeTable : GoodIn wsX8_fewest wsX5_makeTable := goodIn_r _ [152, 124, 132, 153, 154, 155, 121, 156, 157, 137, 138, 139, 58, 140, 141, 142, 143, 144, 62, 41, 11, 42, 39, 40, 158, 159, 160, 161, 198, 199, 200, 201, 202, 188, 189, 190] (by decide +kernel) (by decide +kernel)
set_option maxRecDepth 20000 in
theorem gX8_fewest_X5_makeTable : GoodIn wsX8_fewest (wsV RX8 265 RX5 yX5_makeTable wsX5_makeTable) := goodIn_app (goodIn_of _ (by decide +kernel)) ggX8_fewest_X5_makeTable
set_option maxRecDepth 20000 in
theorem ggX8_fewest_X5_leapsByTable : GoodIn wsX8_fewest wsX5_leapsByTable := goodIn_r _ [165, 157, 41, 11, 42, 198, 199, 200, 201, 202] (by decide +kernel) (by decide +kernel)
set_option maxRecDepth 20000 in
theorem gX8_fewest_X5_leapsByTable : GoodIn wsX8_fewest (wsV RX8 269 RX5 yX5_leapsByTable wsX5_leapsByTable) := goodIn_app (goodIn_of _ (by decide +kernel)) ggX8_fewest_X5_leapsByTable
theorem dX8_fewest_0 : decode cX8_fewest 0 = .ok (.aload_n 0, 1) := by decide +kernel
theorem dX8_fewest_1 : decode cX8_fewest 1 = .ok (.invokevirtual 143, 3) := by decide +kernel
theorem dX8_fewest_4 : decode cX8_fewest 4 = .ok (.aload_n 0, 1) := by decide +kernel
theorem dX8_fewest_5 : decode cX8_fewest 5 = .ok (.getfield 47, 3) := by decide +kernel
theorem dX8_fewest_8 : decode cX8_fewest 8 = .ok (.iload_n 1, 1) := by decide +kernel
theorem dX8_fewest_9 : decode cX8_fewest 9 = .ok (.invokevirtual 225, 3) := by decide +kernel
theorem dX8_fewest_12 : decode cX8_fewest 12 = .ok (.ifCond .eq 14, 3) := by decide +kernel
theorem dX8_fewest_15 : decode cX8_fewest 15 = .ok (.aload_n 0, 1) := by decide +kernel
theorem dX8_fewest_16 : decode cX8_fewest 16 = .ok (.getfield 47, 3) := by decide +kernel
theorem dX8_fewest_19 : decode cX8_fewest 19 = .ok (.iload_n 2, 1) := by decide +kernel
theorem dX8_fewest_20 : decode cX8_fewest 20 = .ok (.invokevirtual 225, 3) := by decide +kernel
theorem dX8_fewest_23 : decode cX8_fewest 23 = .ok (.ifCond .ne 13, 3) := by decide +kernel
theorem dX8_fewest_26 : decode cX8_fewest 26 = .ok (.new 69, 3) := by decide +kernel
theorem dX8_fewest_29 : decode cX8_fewest 29 = .ok (.dup, 1) := by decide +kernel
theorem dX8_fewest_30 : decode cX8_fewest 30 = .ok (.ldc 226, 2) := by decide +kernel
theorem dX8_fewest_32 : decode cX8_fewest 32 = .ok (.invokespecial 73, 3) := by decide +kernel
theorem dX8_fewest_35 : decode cX8_fewest 35 = .ok (.athrow, 1) := by decide +kernel
theorem dX8_fewest_36 : decode cX8_fewest 36 = .ok (.iload_n 3, 1) := by decide +kernel
theorem dX8_fewest_37 : decode cX8_fewest 37 = .ok (.invokestatic 122, 3) := by decide +kernel
theorem dX8_fewest_40 : decode cX8_fewest 40 = .ok (.ifCond .eq 14, 3) := by decide +kernel
theorem dX8_fewest_43 : decode cX8_fewest 43 = .ok (.iload 4, 2) := by decide +kernel
theorem dX8_fewest_45 : decode cX8_fewest 45 = .ok (.ifCond .lt 9, 3) := by decide +kernel
theorem dX8_fewest_48 : decode cX8_fewest 48 = .ok (.iload 4, 2) := by decide +kernel
theorem dX8_fewest_50 : decode cX8_fewest 50 = .ok (.iconst 1, 1) := by decide +kernel
theorem dX8_fewest_51 : decode cX8_fewest 51 = .ok (.if_icmp .le 14, 3) := by decide +kernel
theorem dX8_fewest_54 : decode cX8_fewest 54 = .ok (.new 98, 3) := by decide +kernel
theorem dX8_fewest_57 : decode cX8_fewest 57 = .ok (.dup, 1) := by decide +kernel
theorem dX8_fewest_58 : decode cX8_fewest 58 = .ok (.ldc_w 256, 3) := by decide +kernel
theorem dX8_fewest_61 : decode cX8_fewest 61 = .ok (.invokespecial 102, 3) := by decide +kernel
theorem dX8_fewest_64 : decode cX8_fewest 64 = .ok (.athrow, 1) := by decide +kernel
theorem dX8_fewest_65 : decode cX8_fewest 65 = .ok (.aload_n 0, 1) := by decide +kernel
theorem dX8_fewest_66 : decode cX8_fewest 66 = .ok (.invokevirtual 230, 3) := by decide +kernel
theorem dX8_fewest_69 : decode cX8_fewest 69 = .ok (.iload 4, 2) := by decide +kernel
theorem dX8_fewest_71 : decode cX8_fewest 71 = .ok (.ifCond .ne 26, 3) := by decide +kernel
theorem dX8_fewest_74 : decode cX8_fewest 74 = .ok (.aload_n 0, 1) := by decide +kernel
theorem dX8_fewest_75 : decode cX8_fewest 75 = .ok (.getfield 61, 3) := by decide +kernel
theorem dX8_fewest_78 : decode cX8_fewest 78 = .ok (.aload_n 0, 1) := by decide +kernel
theorem dX8_fewest_79 : decode cX8_fewest 79 = .ok (.getfield 54, 3) := by decide +kernel
theorem dX8_fewest_82 : decode cX8_fewest 82 = .ok (.iload_n 1, 1) := by decide +kernel
theorem dX8_fewest_83 : decode cX8_fewest 83 = .ok (.iload_n 3, 1) := by decide +kernel
theorem dX8_fewest_84 : decode cX8_fewest 84 = .ok (.invokevirtual 258, 3) := by decide +kernel
theorem dX8_fewest_87 : decode cX8_fewest 87 = .ok (.aload_n 0, 1) := by decide +kernel
theorem dX8_fewest_88 : decode cX8_fewest 88 = .ok (.getfield 61, 3) := by decide +kernel
theorem dX8_fewest_91 : decode cX8_fewest 91 = .ok (.iload_n 2, 1) := by decide +kernel
theorem dX8_fewest_92 : decode cX8_fewest 92 = .ok (.iload_n 3, 1) := by decide +kernel
theorem dX8_fewest_93 : decode cX8_fewest 93 = .ok (.invokevirtual 262, 3) := by decide +kernel
theorem dX8_fewest_96 : decode cX8_fewest 96 = .ok (.ireturn, 1) := by decide +kernel
theorem dX8_fewest_97 : decode cX8_fewest 97 = .ok (.aload_n 0, 1) := by decide +kernel
theorem dX8_fewest_98 : decode cX8_fewest 98 = .ok (.getfield 61, 3) := by decide +kernel
theorem dX8_fewest_101 : decode cX8_fewest 101 = .ok (.aload_n 0, 1) := by decide +kernel
theorem dX8_fewest_102 : decode cX8_fewest 102 = .ok (.getfield 54, 3) := by decide +kernel
theorem dX8_fewest_105 : decode cX8_fewest 105 = .ok (.iload_n 3, 1) := by decide +kernel
theorem dX8_fewest_106 : decode cX8_fewest 106 = .ok (.invokevirtual 265, 3) := by decide +kernel
theorem dX8_fewest_109 : decode cX8_fewest 109 = .ok (.aload_n 0, 1) := by decide +kernel
theorem dX8_fewest_110 : decode cX8_fewest 110 = .ok (.getfield 61, 3) := by decide +kernel
theorem dX8_fewest_113 : decode cX8_fewest 113 = .ok (.iload_n 1, 1) := by decide +kernel
theorem dX8_fewest_114 : decode cX8_fewest 114 = .ok (.iload_n 2, 1) := by decide +kernel
theorem dX8_fewest_115 : decode cX8_fewest 115 = .ok (.invokevirtual 269, 3) := by decide +kernel
theorem dX8_fewest_118 : decode cX8_fewest 118 = .ok (.ireturn, 1) := by decide +kernel
set_option maxRecDepth 20000 in
theorem ggX8_onlyRunning_X8_knowReaches : GoodIn wsX8_onlyRunning wsX8_knowReaches := goodIn_r _ [7, 8, 9, 10, 11, 12, 13, 14, 15, 6, 16, 17, 18, 19, 20, 21, 22, 23, 24, 25, 26, 27, 28, 29, 30, 31, 32, 33, 34, 35, 36, 37, 38, 39, 40, 41, 42, 43, 44, 45, 46, 47, 48, 49, 50, 51, 52, 53, 54, 55, 56, 57, 58, 59, 60, 61, 62, 63, 64, 65, 66, 67, 68, 69, 70, 71, 72, 73, 74, 75, 76, 77, 78, 79, 80, 81, 82, 83, 84, 85, 86, 87, 88, 89, 90, 91, 92, 93, 94, 95, 96, 97, 98, 99, 100, 101, 102, 103, 104, 105, 106, 107, 108, 109, 110, 111, 112, 113, 114, 115, 116, 160, 161, 162, 163, 164, 165, 166, 167, 168, 169, 170, 171, 172, 173, 174, 175, 176, 177, 178, 179, 180, 181, 182, 183, 184, 185, 186, 187, 188, 189, 190, 191, 192, 193, 194, 195, 196] (by decide +kernel) (by decide +kernel)
set_option maxRecDepth 20000 in
theorem gX8_onlyRunning_X8_knowReaches : GoodIn wsX8_onlyRunning (wsV RX8 230 RX8 yX8_knowReaches wsX8_knowReaches) := goodIn_app (goodIn_of _ (by decide +kernel)) ggX8_onlyRunning_X8_knowReaches
set_option maxRecDepth 20000 in
theorem ggX8_onlyRunning_X8_spreadFromRunner : GoodIn wsX8_onlyRunning wsX8_spreadFromRunner := goodIn_r _ [120, 12, 9, 121, 122, 123, 6, 124, 11, 10, 125, 126, 127, 66, 67, 21, 68, 24, 69, 70, 44, 45, 128, 129, 130, 112, 131, 114, 132, 133, 134, 42, 43, 135, 136, 137, 138, 139, 140, 141, 49, 142, 143, 144, 145, 146, 53, 160, 161, 162, 163, 164, 165, 166, 167, 168, 169, 175, 176, 177, 178, 179, 180, 181, 170, 171, 172, 173, 174, 192, 193, 194, 195, 196, 182, 183, 184] (by decide +kernel) (by decide +kernel)
set_option maxRecDepth 20000 in
theorem gX8_onlyRunning_X8_spreadFromRunner : GoodIn wsX8_onlyRunning (wsV RX8 238 RX8 yX8_spreadFromRunner wsX8_spreadFromRunner) := goodIn_app (goodIn_of _ (by decide +kernel)) ggX8_onlyRunning_X8_spreadFromRunner
set_option maxRecDepth 20000 in
theorem ggX8_onlyRunning_X8_onlyRunningLedge : GoodIn wsX8_onlyRunning wsX8_onlyRunningLedge := goodIn_r _ [150, 11, 151, 152, 153, 154, 6, 155, 12, 156, 157, 158, 112, 159, 133, 44, 45, 160, 161, 162, 163, 164, 165, 166, 167, 168, 169, 170, 171, 172, 173, 174, 192, 193, 194, 195, 196] (by decide +kernel) (by decide +kernel)
set_option maxRecDepth 20000 in
theorem gX8_onlyRunning_X8_onlyRunningLedge : GoodIn wsX8_onlyRunning (wsV RX8 274 RX8 yX8_onlyRunningLedge wsX8_onlyRunningLedge) := goodIn_app (goodIn_of _ (by decide +kernel)) ggX8_onlyRunning_X8_onlyRunningLedge
theorem dX8_onlyRunning_0 : decode cX8_onlyRunning 0 = .ok (.iload_n 1, 1) := by decide +kernel
theorem dX8_onlyRunning_1 : decode cX8_onlyRunning 1 = .ok (.ifCond .ge 14, 3) := by decide +kernel
theorem dX8_onlyRunning_4 : decode cX8_onlyRunning 4 = .ok (.new 98, 3) := by decide +kernel
theorem dX8_onlyRunning_7 : decode cX8_onlyRunning 7 = .ok (.dup, 1) := by decide +kernel
theorem dX8_onlyRunning_8 : decode cX8_onlyRunning 8 = .ok (.ldc_w 272, 3) := by decide +kernel
theorem dX8_onlyRunning_11 : decode cX8_onlyRunning 11 = .ok (.invokespecial 102, 3) := by decide +kernel
theorem dX8_onlyRunning_14 : decode cX8_onlyRunning 14 = .ok (.athrow, 1) := by decide +kernel
theorem dX8_onlyRunning_15 : decode cX8_onlyRunning 15 = .ok (.aload_n 0, 1) := by decide +kernel
theorem dX8_onlyRunning_16 : decode cX8_onlyRunning 16 = .ok (.invokevirtual 230, 3) := by decide +kernel
theorem dX8_onlyRunning_19 : decode cX8_onlyRunning 19 = .ok (.aload_n 0, 1) := by decide +kernel
theorem dX8_onlyRunning_20 : decode cX8_onlyRunning 20 = .ok (.invokevirtual 238, 3) := by decide +kernel
theorem dX8_onlyRunning_23 : decode cX8_onlyRunning 23 = .ok (.aload_n 0, 1) := by decide +kernel
theorem dX8_onlyRunning_24 : decode cX8_onlyRunning 24 = .ok (.iload_n 1, 1) := by decide +kernel
theorem dX8_onlyRunning_25 : decode cX8_onlyRunning 25 = .ok (.invokevirtual 274, 3) := by decide +kernel
theorem dX8_onlyRunning_28 : decode cX8_onlyRunning 28 = .ok (.ireturn, 1) := by decide +kernel
set_option maxRecDepth 20000 in
theorem ggX8_reachShare_X8_knowReaches : GoodIn wsX8_reachShare wsX8_knowReaches := goodIn_r _ [5, 6, 7, 8, 9, 10, 11, 12, 13, 4, 14, 15, 16, 17, 18, 19, 20, 21, 22, 23, 24, 25, 26, 27, 28, 29, 30, 31, 32, 33, 34, 35, 36, 37, 38, 39, 40, 41, 42, 43, 44, 45, 46, 47, 48, 49, 50, 51, 52, 53, 54, 55, 56, 57, 58, 59, 60, 61, 62, 63, 64, 65, 66, 67, 68, 69, 70, 71, 72, 73, 74, 75, 76, 77, 78, 79, 80, 81, 82, 83, 84, 85, 86, 87, 88, 89, 90, 91, 92, 93, 94, 95, 96, 97, 98, 99, 100, 101, 102, 103, 104, 105, 106, 107, 108, 109, 110, 111, 112, 113, 114, 162, 163, 164, 165, 166, 167, 168, 169, 170, 171, 172, 173, 174, 175, 176, 177, 178, 179, 180, 181, 182, 183, 184, 185, 186, 187, 188, 189, 190, 191, 192, 193, 194, 195, 196, 197, 198] (by decide +kernel) (by decide +kernel)
set_option maxRecDepth 20000 in
theorem gX8_reachShare_X8_knowReaches : GoodIn wsX8_reachShare (wsV RX8 230 RX8 yX8_knowReaches wsX8_knowReaches) := goodIn_app (goodIn_of _ (by decide +kernel)) ggX8_reachShare_X8_knowReaches
set_option maxRecDepth 20000 in
theorem ggX8_reachShare_X8_spreadFromRunner : GoodIn wsX8_reachShare wsX8_spreadFromRunner := goodIn_r _ [118, 10, 7, 119, 120, 121, 4, 122, 9, 8, 123, 124, 125, 64, 65, 19, 66, 22, 67, 68, 42, 43, 126, 127, 128, 110, 129, 112, 130, 131, 132, 40, 41, 133, 134, 135, 136, 137, 138, 139, 47, 140, 141, 142, 143, 144, 51, 162, 163, 164, 165, 166, 167, 168, 169, 170, 171, 177, 178, 179, 180, 181, 182, 183, 172, 173, 174, 175, 176, 194, 195, 196, 197, 198, 184, 185, 186] (by decide +kernel) (by decide +kernel)
set_option maxRecDepth 20000 in
theorem gX8_reachShare_X8_spreadFromRunner : GoodIn wsX8_reachShare (wsV RX8 238 RX8 yX8_spreadFromRunner wsX8_spreadFromRunner) := goodIn_app (goodIn_of _ (by decide +kernel)) ggX8_reachShare_X8_spreadFromRunner
set_option maxRecDepth 20000 in
theorem ggX8_reachShare_X8_shareOfReached : GoodIn wsX8_reachShare wsX8_shareOfReached := goodIn_r _ [148, 9, 149, 150, 151, 152, 4, 153, 154, 155, 156, 157, 10, 158, 159, 160, 110, 161, 131, 42, 43, 162, 163, 164, 165, 166, 167, 168, 169, 170, 171, 172, 173, 174, 175, 176, 194, 195, 196, 197, 198] (by decide +kernel) (by decide +kernel)
set_option maxRecDepth 20000 in
theorem gX8_reachShare_X8_shareOfReached : GoodIn wsX8_reachShare (wsV RX8 277 RX8 yX8_shareOfReached wsX8_shareOfReached) := goodIn_app (goodIn_of _ (by decide +kernel)) ggX8_reachShare_X8_shareOfReached
theorem dX8_reachShare_0 : decode cX8_reachShare 0 = .ok (.aload_n 0, 1) := by decide +kernel
theorem dX8_reachShare_1 : decode cX8_reachShare 1 = .ok (.invokevirtual 230, 3) := by decide +kernel
theorem dX8_reachShare_4 : decode cX8_reachShare 4 = .ok (.aload_n 0, 1) := by decide +kernel
theorem dX8_reachShare_5 : decode cX8_reachShare 5 = .ok (.invokevirtual 238, 3) := by decide +kernel
theorem dX8_reachShare_8 : decode cX8_reachShare 8 = .ok (.aload_n 0, 1) := by decide +kernel
theorem dX8_reachShare_9 : decode cX8_reachShare 9 = .ok (.invokevirtual 277, 3) := by decide +kernel
theorem dX8_reachShare_12 : decode cX8_reachShare 12 = .ok (.dreturn, 1) := by decide +kernel
theorem dX8_isCell_0 : decode cX8_isCell 0 = .ok (.iload_n 0, 1) := by decide +kernel
theorem dX8_isCell_1 : decode cX8_isCell 1 = .ok (.ifCond .lt 23, 3) := by decide +kernel
theorem dX8_isCell_4 : decode cX8_isCell 4 = .ok (.iload_n 0, 1) := by decide +kernel
theorem dX8_isCell_5 : decode cX8_isCell 5 = .ok (.bipush 20, 2) := by decide +kernel
theorem dX8_isCell_7 : decode cX8_isCell 7 = .ok (.if_icmp .ge 17, 3) := by decide +kernel
theorem dX8_isCell_10 : decode cX8_isCell 10 = .ok (.iload_n 1, 1) := by decide +kernel
theorem dX8_isCell_11 : decode cX8_isCell 11 = .ok (.ifCond .lt 13, 3) := by decide +kernel
theorem dX8_isCell_14 : decode cX8_isCell 14 = .ok (.iload_n 1, 1) := by decide +kernel
theorem dX8_isCell_15 : decode cX8_isCell 15 = .ok (.bipush 10, 2) := by decide +kernel
theorem dX8_isCell_17 : decode cX8_isCell 17 = .ok (.if_icmp .ge 7, 3) := by decide +kernel
theorem dX8_isCell_20 : decode cX8_isCell 20 = .ok (.iconst 1, 1) := by decide +kernel
theorem dX8_isCell_21 : decode cX8_isCell 21 = .ok (.goto 4, 3) := by decide +kernel
theorem dX8_isCell_24 : decode cX8_isCell 24 = .ok (.iconst 0, 1) := by decide +kernel
theorem dX8_isCell_25 : decode cX8_isCell 25 = .ok (.ireturn, 1) := by decide +kernel
theorem dX8_isSetting_0 : decode cX8_isSetting 0 = .ok (.iload_n 0, 1) := by decide +kernel
theorem dX8_isSetting_1 : decode cX8_isSetting 1 = .ok (.ifCond .lt 12, 3) := by decide +kernel
theorem dX8_isSetting_4 : decode cX8_isSetting 4 = .ok (.iload_n 0, 1) := by decide +kernel
theorem dX8_isSetting_5 : decode cX8_isSetting 5 = .ok (.iconst 3, 1) := by decide +kernel
theorem dX8_isSetting_6 : decode cX8_isSetting 6 = .ok (.if_icmp .ge 7, 3) := by decide +kernel
theorem dX8_isSetting_9 : decode cX8_isSetting 9 = .ok (.iconst 1, 1) := by decide +kernel
theorem dX8_isSetting_10 : decode cX8_isSetting 10 = .ok (.goto 4, 3) := by decide +kernel
theorem dX8_isSetting_13 : decode cX8_isSetting 13 = .ok (.iconst 0, 1) := by decide +kernel
theorem dX8_isSetting_14 : decode cX8_isSetting 14 = .ok (.ireturn, 1) := by decide +kernel
theorem dX8_isSide_0 : decode cX8_isSide 0 = .ok (.iload_n 0, 1) := by decide +kernel
theorem dX8_isSide_1 : decode cX8_isSide 1 = .ok (.iconst 1, 1) := by decide +kernel
theorem dX8_isSide_2 : decode cX8_isSide 2 = .ok (.if_icmp .eq 8, 3) := by decide +kernel
theorem dX8_isSide_5 : decode cX8_isSide 5 = .ok (.iload_n 0, 1) := by decide +kernel
theorem dX8_isSide_6 : decode cX8_isSide 6 = .ok (.iconst (-1), 1) := by decide +kernel
theorem dX8_isSide_7 : decode cX8_isSide 7 = .ok (.if_icmp .ne 7, 3) := by decide +kernel
theorem dX8_isSide_10 : decode cX8_isSide 10 = .ok (.iconst 1, 1) := by decide +kernel
theorem dX8_isSide_11 : decode cX8_isSide 11 = .ok (.goto 4, 3) := by decide +kernel
theorem dX8_isSide_14 : decode cX8_isSide 14 = .ok (.iconst 0, 1) := by decide +kernel
theorem dX8_isSide_15 : decode cX8_isSide 15 = .ok (.ireturn, 1) := by decide +kernel
theorem dX8_isRunUp_0 : decode cX8_isRunUp 0 = .ok (.iload_n 0, 1) := by decide +kernel
theorem dX8_isRunUp_1 : decode cX8_isRunUp 1 = .ok (.ifCond .lt 12, 3) := by decide +kernel
theorem dX8_isRunUp_4 : decode cX8_isRunUp 4 = .ok (.iload_n 0, 1) := by decide +kernel
theorem dX8_isRunUp_5 : decode cX8_isRunUp 5 = .ok (.iconst 3, 1) := by decide +kernel
theorem dX8_isRunUp_6 : decode cX8_isRunUp 6 = .ok (.if_icmp .gt 7, 3) := by decide +kernel
theorem dX8_isRunUp_9 : decode cX8_isRunUp 9 = .ok (.iconst 1, 1) := by decide +kernel
theorem dX8_isRunUp_10 : decode cX8_isRunUp 10 = .ok (.goto 4, 3) := by decide +kernel
theorem dX8_isRunUp_13 : decode cX8_isRunUp 13 = .ok (.iconst 0, 1) := by decide +kernel
theorem dX8_isRunUp_14 : decode cX8_isRunUp 14 = .ok (.ireturn, 1) := by decide +kernel
theorem dX8_at_0 : decode cX8_at 0 = .ok (.iload_n 1, 1) := by decide +kernel
theorem dX8_at_1 : decode cX8_at 1 = .ok (.ifCond .lt 15, 3) := by decide +kernel
theorem dX8_at_4 : decode cX8_at 4 = .ok (.iload_n 1, 1) := by decide +kernel
theorem dX8_at_5 : decode cX8_at 5 = .ok (.aload_n 0, 1) := by decide +kernel
theorem dX8_at_6 : decode cX8_at 6 = .ok (.arraylength, 1) := by decide +kernel
theorem dX8_at_7 : decode cX8_at 7 = .ok (.if_icmp .ge 9, 3) := by decide +kernel
theorem dX8_at_10 : decode cX8_at 10 = .ok (.aload_n 0, 1) := by decide +kernel
theorem dX8_at_11 : decode cX8_at 11 = .ok (.iload_n 1, 1) := by decide +kernel
theorem dX8_at_12 : decode cX8_at 12 = .ok (.iaload, 1) := by decide +kernel
theorem dX8_at_13 : decode cX8_at 13 = .ok (.goto 4, 3) := by decide +kernel
theorem dX8_at_16 : decode cX8_at 16 = .ok (.iconst (-1), 1) := by decide +kernel
theorem dX8_at_17 : decode cX8_at 17 = .ok (.ireturn, 1) := by decide +kernel
theorem dX8_store_0 : decode cX8_store 0 = .ok (.iload_n 1, 1) := by decide +kernel
theorem dX8_store_1 : decode cX8_store 1 = .ok (.ifCond .lt 13, 3) := by decide +kernel
theorem dX8_store_4 : decode cX8_store 4 = .ok (.iload_n 1, 1) := by decide +kernel
theorem dX8_store_5 : decode cX8_store 5 = .ok (.aload_n 0, 1) := by decide +kernel
theorem dX8_store_6 : decode cX8_store 6 = .ok (.arraylength, 1) := by decide +kernel
theorem dX8_store_7 : decode cX8_store 7 = .ok (.if_icmp .ge 7, 3) := by decide +kernel
theorem dX8_store_10 : decode cX8_store 10 = .ok (.aload_n 0, 1) := by decide +kernel
theorem dX8_store_11 : decode cX8_store 11 = .ok (.iload_n 1, 1) := by decide +kernel
theorem dX8_store_12 : decode cX8_store 12 = .ok (.iload_n 2, 1) := by decide +kernel
theorem dX8_store_13 : decode cX8_store 13 = .ok (.iastore, 1) := by decide +kernel
theorem dX8_store_14 : decode cX8_store 14 = .ok (.return_, 1) := by decide +kernel
theorem dX8_forgetLevel_0 : decode cX8_forgetLevel 0 = .ok (.aload_n 0, 1) := by decide +kernel
theorem dX8_forgetLevel_1 : decode cX8_forgetLevel 1 = .ok (.iconst 0, 1) := by decide +kernel
theorem dX8_forgetLevel_2 : decode cX8_forgetLevel 2 = .ok (.putfield 299, 3) := by decide +kernel
theorem dX8_forgetLevel_5 : decode cX8_forgetLevel 5 = .ok (.aload_n 0, 1) := by decide +kernel
theorem dX8_forgetLevel_6 : decode cX8_forgetLevel 6 = .ok (.iconst 0, 1) := by decide +kernel
theorem dX8_forgetLevel_7 : decode cX8_forgetLevel 7 = .ok (.putfield 303, 3) := by decide +kernel
theorem dX8_forgetLevel_10 : decode cX8_forgetLevel 10 = .ok (.return_, 1) := by decide +kernel
set_option maxRecDepth 20000 in
theorem ggX8_knowMap_X2_draw : GoodIn wsX8_knowMap wsX2_draw := goodIn_r _ [8, 9, 10, 11, 12, 13, 14, 15, 16, 17, 18, 19, 20, 21, 22, 23, 7, 24, 25, 26, 27, 28, 29, 30, 31, 32, 43, 44, 45, 46, 47, 48, 49, 50, 51, 52, 53, 54] (by decide +kernel) (by decide +kernel)
set_option maxRecDepth 20000 in
theorem gX8_knowMap_X2_draw : GoodIn wsX8_knowMap (wsV RX8 306 RX2 yX2_draw wsX2_draw) := goodIn_app (goodIn_of _ (by decide +kernel)) ggX8_knowMap_X2_draw
theorem dX8_knowMap_0 : decode cX8_knowMap 0 = .ok (.aload_n 0, 1) := by decide +kernel
theorem dX8_knowMap_1 : decode cX8_knowMap 1 = .ok (.getfield 299, 3) := by decide +kernel
theorem dX8_knowMap_4 : decode cX8_knowMap 4 = .ok (.ifCond .ne 19, 3) := by decide +kernel
theorem dX8_knowMap_7 : decode cX8_knowMap 7 = .ok (.aload_n 0, 1) := by decide +kernel
theorem dX8_knowMap_8 : decode cX8_knowMap 8 = .ok (.getfield 47, 3) := by decide +kernel
theorem dX8_knowMap_11 : decode cX8_knowMap 11 = .ok (.aload_n 0, 1) := by decide +kernel
theorem dX8_knowMap_12 : decode cX8_knowMap 12 = .ok (.getfield 12, 3) := by decide +kernel
theorem dX8_knowMap_15 : decode cX8_knowMap 15 = .ok (.invokevirtual 306, 3) := by decide +kernel
theorem dX8_knowMap_18 : decode cX8_knowMap 18 = .ok (.aload_n 0, 1) := by decide +kernel
theorem dX8_knowMap_19 : decode cX8_knowMap 19 = .ok (.iconst 1, 1) := by decide +kernel
theorem dX8_knowMap_20 : decode cX8_knowMap 20 = .ok (.putfield 299, 3) := by decide +kernel
theorem dX8_knowMap_23 : decode cX8_knowMap 23 = .ok (.return_, 1) := by decide +kernel
set_option maxRecDepth 20000 in
theorem ggX8_knowReaches_X8_knowMap : GoodIn wsX8_knowReaches wsX8_knowMap := goodIn_r _ [10, 11, 4, 3, 12, 13, 14, 15, 16, 17, 18, 19, 20, 21, 22, 23, 24, 25, 26, 27, 28, 29, 30, 31, 32, 33, 34, 35, 36, 9, 37, 38, 39, 111, 112, 113, 114, 115, 116, 117, 118, 119, 120, 121, 122, 123, 124, 125, 126, 127, 128, 129, 130, 131, 132] (by decide +kernel) (by decide +kernel)
set_option maxRecDepth 20000 in
theorem gX8_knowReaches_X8_knowMap : GoodIn wsX8_knowReaches (wsV RX8 143 RX8 yX8_knowMap wsX8_knowMap) := goodIn_app (goodIn_of _ (by decide +kernel)) ggX8_knowReaches_X8_knowMap
set_option maxRecDepth 20000 in
theorem ggX8_knowReaches_X4_find : GoodIn wsX8_knowReaches wsX4_find := goodIn_r _ [44, 45, 46, 47, 48, 49, 50, 51, 52, 53, 54, 43, 55, 56, 57, 58, 59, 60, 61, 15, 62, 18, 63, 9, 64, 38, 39, 65, 66, 67, 22, 68, 69, 20, 21, 23, 24, 25, 26, 27, 28, 70, 71, 72, 73, 74, 75, 76, 77, 78, 79, 80, 81, 82, 83, 84, 85, 86, 87, 88, 89, 90, 91, 92, 93, 94, 95, 96, 97, 98, 99, 100, 101, 102, 36, 37, 121, 122, 123, 124, 125, 133, 134, 135, 136, 137, 138, 139, 140, 141, 142, 126, 127, 128, 129, 130, 131, 132] (by decide +kernel) (by decide +kernel)
set_option maxRecDepth 20000 in
theorem gX8_knowReaches_X4_find : GoodIn wsX8_knowReaches (wsV RX8 309 RX4 yX4_find wsX4_find) := goodIn_app (goodIn_of _ (by decide +kernel)) ggX8_knowReaches_X4_find
set_option maxRecDepth 20000 in
theorem ggX8_knowReaches_X5_forget : GoodIn wsX8_knowReaches wsX5_forget := goodIn_r _ [107, 108, 109, 110, 49, 50, 51, 143, 144, 145, 146, 147] (by decide +kernel) (by decide +kernel)
set_option maxRecDepth 20000 in
theorem gX8_knowReaches_X5_forget : GoodIn wsX8_knowReaches (wsV RX8 313 RX5 yX5_forget wsX5_forget) := goodIn_app (goodIn_of _ (by decide +kernel)) ggX8_knowReaches_X5_forget
theorem dX8_knowReaches_0 : decode cX8_knowReaches 0 = .ok (.aload_n 0, 1) := by decide +kernel
theorem dX8_knowReaches_1 : decode cX8_knowReaches 1 = .ok (.invokevirtual 143, 3) := by decide +kernel
theorem dX8_knowReaches_4 : decode cX8_knowReaches 4 = .ok (.aload_n 0, 1) := by decide +kernel
theorem dX8_knowReaches_5 : decode cX8_knowReaches 5 = .ok (.getfield 303, 3) := by decide +kernel
theorem dX8_knowReaches_8 : decode cX8_knowReaches 8 = .ok (.ifCond .ne 30, 3) := by decide +kernel
theorem dX8_knowReaches_11 : decode cX8_knowReaches 11 = .ok (.aload_n 0, 1) := by decide +kernel
theorem dX8_knowReaches_12 : decode cX8_knowReaches 12 = .ok (.getfield 54, 3) := by decide +kernel
theorem dX8_knowReaches_15 : decode cX8_knowReaches 15 = .ok (.aload_n 0, 1) := by decide +kernel
theorem dX8_knowReaches_16 : decode cX8_knowReaches 16 = .ok (.getfield 12, 3) := by decide +kernel
theorem dX8_knowReaches_19 : decode cX8_knowReaches 19 = .ok (.aload_n 0, 1) := by decide +kernel
theorem dX8_knowReaches_20 : decode cX8_knowReaches 20 = .ok (.getfield 47, 3) := by decide +kernel
theorem dX8_knowReaches_23 : decode cX8_knowReaches 23 = .ok (.invokevirtual 309, 3) := by decide +kernel
theorem dX8_knowReaches_26 : decode cX8_knowReaches 26 = .ok (.aload_n 0, 1) := by decide +kernel
theorem dX8_knowReaches_27 : decode cX8_knowReaches 27 = .ok (.getfield 61, 3) := by decide +kernel
theorem dX8_knowReaches_30 : decode cX8_knowReaches 30 = .ok (.invokevirtual 313, 3) := by decide +kernel
theorem dX8_knowReaches_33 : decode cX8_knowReaches 33 = .ok (.aload_n 0, 1) := by decide +kernel
theorem dX8_knowReaches_34 : decode cX8_knowReaches 34 = .ok (.iconst 1, 1) := by decide +kernel
theorem dX8_knowReaches_35 : decode cX8_knowReaches 35 = .ok (.putfield 303, 3) := by decide +kernel
theorem dX8_knowReaches_38 : decode cX8_knowReaches 38 = .ok (.return_, 1) := by decide +kernel
set_option maxRecDepth 20000 in
theorem ggX8_buildOrBreak_X7_turnBlock : GoodIn wsX8_buildOrBreak wsX7_turnBlock := goodIn_r _ [9, 10, 43, 44, 45, 46, 47, 48, 49] (by decide +kernel) (by decide +kernel)
set_option maxRecDepth 20000 in
theorem gX8_buildOrBreak_X7_turnBlock : GoodIn wsX8_buildOrBreak (wsV RX8 316 RX7 yX7_turnBlock wsX7_turnBlock) := goodIn_app (goodIn_of _ (by decide +kernel)) ggX8_buildOrBreak_X7_turnBlock
set_option maxRecDepth 20000 in
theorem ggX8_buildOrBreak_X7_letRunnerFall : GoodIn wsX8_buildOrBreak wsX7_letRunnerFall := goodIn_r _ [14, 15, 16, 17, 18, 19, 8, 20, 21, 22, 23, 24, 10, 43, 44, 45, 46, 47, 48, 49] (by decide +kernel) (by decide +kernel)
set_option maxRecDepth 20000 in
theorem gX8_buildOrBreak_X7_letRunnerFall : GoodIn wsX8_buildOrBreak (wsV RX8 320 RX7 yX7_letRunnerFall wsX7_letRunnerFall) := goodIn_app (goodIn_of _ (by decide +kernel)) ggX8_buildOrBreak_X7_letRunnerFall
set_option maxRecDepth 20000 in
theorem ggX8_buildOrBreak_X8_forgetLevel : GoodIn wsX8_buildOrBreak wsX8_forgetLevel := goodIn_r _ [29, 30, 31, 33, 34, 35, 36, 37, 38, 39, 40, 41, 42] (by decide +kernel) (by decide +kernel)
set_option maxRecDepth 20000 in
theorem gX8_buildOrBreak_X8_forgetLevel : GoodIn wsX8_buildOrBreak (wsV RX8 110 RX8 yX8_forgetLevel wsX8_forgetLevel) := goodIn_app (goodIn_of _ (by decide +kernel)) ggX8_buildOrBreak_X8_forgetLevel
set_option maxRecDepth 20000 in
theorem ggX8_buildOrBreak_X7_isBlock : GoodIn wsX8_buildOrBreak wsX7_isBlock := goodIn_r _ [24, 10, 43, 44, 45, 46, 47, 48, 49] (by decide +kernel) (by decide +kernel)
set_option maxRecDepth 20000 in
theorem gX8_buildOrBreak_X7_isBlock : GoodIn wsX8_buildOrBreak (wsV RX8 323 RX7 yX7_isBlock wsX7_isBlock) := goodIn_app (goodIn_of _ (by decide +kernel)) ggX8_buildOrBreak_X7_isBlock
theorem dX8_buildOrBreak_0 : decode cX8_buildOrBreak 0 = .ok (.iload_n 1, 1) := by decide +kernel
theorem dX8_buildOrBreak_1 : decode cX8_buildOrBreak 1 = .ok (.aload_n 0, 1) := by decide +kernel
theorem dX8_buildOrBreak_2 : decode cX8_buildOrBreak 2 = .ok (.getfield 12, 3) := by decide +kernel
theorem dX8_buildOrBreak_5 : decode cX8_buildOrBreak 5 = .ok (.getfield 137, 3) := by decide +kernel
theorem dX8_buildOrBreak_8 : decode cX8_buildOrBreak 8 = .ok (.if_icmp .ne 29, 3) := by decide +kernel
theorem dX8_buildOrBreak_11 : decode cX8_buildOrBreak 11 = .ok (.iload_n 2, 1) := by decide +kernel
theorem dX8_buildOrBreak_12 : decode cX8_buildOrBreak 12 = .ok (.aload_n 0, 1) := by decide +kernel
theorem dX8_buildOrBreak_13 : decode cX8_buildOrBreak 13 = .ok (.getfield 12, 3) := by decide +kernel
theorem dX8_buildOrBreak_16 : decode cX8_buildOrBreak 16 = .ok (.getfield 140, 3) := by decide +kernel
theorem dX8_buildOrBreak_19 : decode cX8_buildOrBreak 19 = .ok (.if_icmp .ne 18, 3) := by decide +kernel
theorem dX8_buildOrBreak_22 : decode cX8_buildOrBreak 22 = .ok (.aload_n 0, 1) := by decide +kernel
theorem dX8_buildOrBreak_23 : decode cX8_buildOrBreak 23 = .ok (.getfield 12, 3) := by decide +kernel
theorem dX8_buildOrBreak_26 : decode cX8_buildOrBreak 26 = .ok (.dup, 1) := by decide +kernel
theorem dX8_buildOrBreak_27 : decode cX8_buildOrBreak 27 = .ok (.getfield 133, 3) := by decide +kernel
theorem dX8_buildOrBreak_30 : decode cX8_buildOrBreak 30 = .ok (.iconst 1, 1) := by decide +kernel
theorem dX8_buildOrBreak_31 : decode cX8_buildOrBreak 31 = .ok (.iadd, 1) := by decide +kernel
theorem dX8_buildOrBreak_32 : decode cX8_buildOrBreak 32 = .ok (.putfield 133, 3) := by decide +kernel
theorem dX8_buildOrBreak_35 : decode cX8_buildOrBreak 35 = .ok (.iconst (-1), 1) := by decide +kernel
theorem dX8_buildOrBreak_36 : decode cX8_buildOrBreak 36 = .ok (.ireturn, 1) := by decide +kernel
theorem dX8_buildOrBreak_37 : decode cX8_buildOrBreak 37 = .ok (.aload_n 0, 1) := by decide +kernel
theorem dX8_buildOrBreak_38 : decode cX8_buildOrBreak 38 = .ok (.getfield 12, 3) := by decide +kernel
theorem dX8_buildOrBreak_41 : decode cX8_buildOrBreak 41 = .ok (.iload_n 1, 1) := by decide +kernel
theorem dX8_buildOrBreak_42 : decode cX8_buildOrBreak 42 = .ok (.iload_n 2, 1) := by decide +kernel
theorem dX8_buildOrBreak_43 : decode cX8_buildOrBreak 43 = .ok (.invokevirtual 316, 3) := by decide +kernel
theorem dX8_buildOrBreak_46 : decode cX8_buildOrBreak 46 = .ok (.aload_n 0, 1) := by decide +kernel
theorem dX8_buildOrBreak_47 : decode cX8_buildOrBreak 47 = .ok (.getfield 12, 3) := by decide +kernel
theorem dX8_buildOrBreak_50 : decode cX8_buildOrBreak 50 = .ok (.invokevirtual 320, 3) := by decide +kernel
theorem dX8_buildOrBreak_53 : decode cX8_buildOrBreak 53 = .ok (.aload_n 0, 1) := by decide +kernel
theorem dX8_buildOrBreak_54 : decode cX8_buildOrBreak 54 = .ok (.invokevirtual 110, 3) := by decide +kernel
theorem dX8_buildOrBreak_57 : decode cX8_buildOrBreak 57 = .ok (.aload_n 0, 1) := by decide +kernel
theorem dX8_buildOrBreak_58 : decode cX8_buildOrBreak 58 = .ok (.getfield 12, 3) := by decide +kernel
theorem dX8_buildOrBreak_61 : decode cX8_buildOrBreak 61 = .ok (.iload_n 1, 1) := by decide +kernel
theorem dX8_buildOrBreak_62 : decode cX8_buildOrBreak 62 = .ok (.iload_n 2, 1) := by decide +kernel
theorem dX8_buildOrBreak_63 : decode cX8_buildOrBreak 63 = .ok (.invokevirtual 323, 3) := by decide +kernel
theorem dX8_buildOrBreak_66 : decode cX8_buildOrBreak 66 = .ok (.ifCond .eq 7, 3) := by decide +kernel
theorem dX8_buildOrBreak_69 : decode cX8_buildOrBreak 69 = .ok (.iconst 1, 1) := by decide +kernel
theorem dX8_buildOrBreak_70 : decode cX8_buildOrBreak 70 = .ok (.goto 4, 3) := by decide +kernel
theorem dX8_buildOrBreak_73 : decode cX8_buildOrBreak 73 = .ok (.iconst 0, 1) := by decide +kernel
theorem dX8_buildOrBreak_74 : decode cX8_buildOrBreak 74 = .ok (.ireturn, 1) := by decide +kernel
set_option maxRecDepth 20000 in
theorem ggX8_runnerWalks_X7_canStand : GoodIn wsX8_runnerWalks wsX7_canStand := goodIn_r _ [9, 10, 11, 12, 8, 13, 14, 25, 26, 27, 28, 29, 30, 31] (by decide +kernel) (by decide +kernel)
set_option maxRecDepth 20000 in
theorem gX8_runnerWalks_X7_canStand : GoodIn wsX8_runnerWalks (wsV RX8 130 RX7 yX7_canStand wsX7_canStand) := goodIn_app (goodIn_of _ (by decide +kernel)) ggX8_runnerWalks_X7_canStand
theorem dX8_runnerWalks_0 : decode cX8_runnerWalks 0 = .ok (.aload_n 0, 1) := by decide +kernel
theorem dX8_runnerWalks_1 : decode cX8_runnerWalks 1 = .ok (.getfield 12, 3) := by decide +kernel
theorem dX8_runnerWalks_4 : decode cX8_runnerWalks 4 = .ok (.aload_n 0, 1) := by decide +kernel
theorem dX8_runnerWalks_5 : decode cX8_runnerWalks 5 = .ok (.getfield 12, 3) := by decide +kernel
theorem dX8_runnerWalks_8 : decode cX8_runnerWalks 8 = .ok (.getfield 137, 3) := by decide +kernel
theorem dX8_runnerWalks_11 : decode cX8_runnerWalks 11 = .ok (.iload_n 1, 1) := by decide +kernel
theorem dX8_runnerWalks_12 : decode cX8_runnerWalks 12 = .ok (.iadd, 1) := by decide +kernel
theorem dX8_runnerWalks_13 : decode cX8_runnerWalks 13 = .ok (.aload_n 0, 1) := by decide +kernel
theorem dX8_runnerWalks_14 : decode cX8_runnerWalks 14 = .ok (.getfield 12, 3) := by decide +kernel
theorem dX8_runnerWalks_17 : decode cX8_runnerWalks 17 = .ok (.getfield 140, 3) := by decide +kernel
theorem dX8_runnerWalks_20 : decode cX8_runnerWalks 20 = .ok (.invokevirtual 130, 3) := by decide +kernel
theorem dX8_runnerWalks_23 : decode cX8_runnerWalks 23 = .ok (.ifCond .ne 18, 3) := by decide +kernel
theorem dX8_runnerWalks_26 : decode cX8_runnerWalks 26 = .ok (.aload_n 0, 1) := by decide +kernel
theorem dX8_runnerWalks_27 : decode cX8_runnerWalks 27 = .ok (.getfield 12, 3) := by decide +kernel
theorem dX8_runnerWalks_30 : decode cX8_runnerWalks 30 = .ok (.dup, 1) := by decide +kernel
theorem dX8_runnerWalks_31 : decode cX8_runnerWalks 31 = .ok (.getfield 133, 3) := by decide +kernel
theorem dX8_runnerWalks_34 : decode cX8_runnerWalks 34 = .ok (.iconst 1, 1) := by decide +kernel
theorem dX8_runnerWalks_35 : decode cX8_runnerWalks 35 = .ok (.iadd, 1) := by decide +kernel
theorem dX8_runnerWalks_36 : decode cX8_runnerWalks 36 = .ok (.putfield 133, 3) := by decide +kernel
theorem dX8_runnerWalks_39 : decode cX8_runnerWalks 39 = .ok (.iconst (-1), 1) := by decide +kernel
theorem dX8_runnerWalks_40 : decode cX8_runnerWalks 40 = .ok (.ireturn, 1) := by decide +kernel
theorem dX8_runnerWalks_41 : decode cX8_runnerWalks 41 = .ok (.aload_n 0, 1) := by decide +kernel
theorem dX8_runnerWalks_42 : decode cX8_runnerWalks 42 = .ok (.getfield 12, 3) := by decide +kernel
theorem dX8_runnerWalks_45 : decode cX8_runnerWalks 45 = .ok (.dup, 1) := by decide +kernel
theorem dX8_runnerWalks_46 : decode cX8_runnerWalks 46 = .ok (.getfield 137, 3) := by decide +kernel
theorem dX8_runnerWalks_49 : decode cX8_runnerWalks 49 = .ok (.iload_n 1, 1) := by decide +kernel
theorem dX8_runnerWalks_50 : decode cX8_runnerWalks 50 = .ok (.iadd, 1) := by decide +kernel
theorem dX8_runnerWalks_51 : decode cX8_runnerWalks 51 = .ok (.putfield 137, 3) := by decide +kernel
theorem dX8_runnerWalks_54 : decode cX8_runnerWalks 54 = .ok (.aload_n 0, 1) := by decide +kernel
theorem dX8_runnerWalks_55 : decode cX8_runnerWalks 55 = .ok (.getfield 12, 3) := by decide +kernel
theorem dX8_runnerWalks_58 : decode cX8_runnerWalks 58 = .ok (.getfield 137, 3) := by decide +kernel
theorem dX8_runnerWalks_61 : decode cX8_runnerWalks 61 = .ok (.ireturn, 1) := by decide +kernel
set_option maxRecDepth 20000 in
theorem ggX8_runnerLeaps_X7_greatestRunUp : GoodIn wsX8_runnerLeaps wsX7_greatestRunUp := goodIn_r _ [15, 16, 17, 18, 14, 19, 20, 21, 22, 23, 24, 71, 72, 73, 74, 75, 76, 77] (by decide +kernel) (by decide +kernel)
set_option maxRecDepth 20000 in
theorem gX8_runnerLeaps_X7_greatestRunUp : GoodIn wsX8_runnerLeaps (wsV RX8 326 RX7 yX7_greatestRunUp wsX7_greatestRunUp) := goodIn_app (goodIn_of _ (by decide +kernel)) ggX8_runnerLeaps_X7_greatestRunUp
set_option maxRecDepth 20000 in
theorem ggX8_runnerLeaps_X0_fly : GoodIn wsX8_runnerLeaps wsX0_fly := goodIn_r _ [29, 30, 31, 32, 33, 34, 35, 36, 37, 38, 39, 40, 41, 42, 43, 44, 45, 46, 47, 28, 48, 49, 21, 22, 14, 23, 24, 50, 51, 52, 53, 54, 55, 56, 57, 58, 59, 60, 78, 79, 80, 81, 82, 83, 84, 71, 72, 73, 74, 75, 76, 77] (by decide +kernel) (by decide +kernel)
set_option maxRecDepth 20000 in
theorem gX8_runnerLeaps_X0_fly : GoodIn wsX8_runnerLeaps (wsV RX8 329 RX0 yX0_fly wsX0_fly) := goodIn_app (goodIn_of _ (by decide +kernel)) ggX8_runnerLeaps_X0_fly
theorem dX8_runnerLeaps_0 : decode cX8_runnerLeaps 0 = .ok (.iload_n 2, 1) := by decide +kernel
theorem dX8_runnerLeaps_1 : decode cX8_runnerLeaps 1 = .ok (.aload_n 0, 1) := by decide +kernel
theorem dX8_runnerLeaps_2 : decode cX8_runnerLeaps 2 = .ok (.getfield 12, 3) := by decide +kernel
theorem dX8_runnerLeaps_5 : decode cX8_runnerLeaps 5 = .ok (.aload_n 0, 1) := by decide +kernel
theorem dX8_runnerLeaps_6 : decode cX8_runnerLeaps 6 = .ok (.getfield 12, 3) := by decide +kernel
theorem dX8_runnerLeaps_9 : decode cX8_runnerLeaps 9 = .ok (.getfield 137, 3) := by decide +kernel
theorem dX8_runnerLeaps_12 : decode cX8_runnerLeaps 12 = .ok (.aload_n 0, 1) := by decide +kernel
theorem dX8_runnerLeaps_13 : decode cX8_runnerLeaps 13 = .ok (.getfield 12, 3) := by decide +kernel
theorem dX8_runnerLeaps_16 : decode cX8_runnerLeaps 16 = .ok (.getfield 140, 3) := by decide +kernel
theorem dX8_runnerLeaps_19 : decode cX8_runnerLeaps 19 = .ok (.iload_n 1, 1) := by decide +kernel
theorem dX8_runnerLeaps_20 : decode cX8_runnerLeaps 20 = .ok (.invokevirtual 326, 3) := by decide +kernel
theorem dX8_runnerLeaps_23 : decode cX8_runnerLeaps 23 = .ok (.if_icmp .le 18, 3) := by decide +kernel
theorem dX8_runnerLeaps_26 : decode cX8_runnerLeaps 26 = .ok (.aload_n 0, 1) := by decide +kernel
theorem dX8_runnerLeaps_27 : decode cX8_runnerLeaps 27 = .ok (.getfield 12, 3) := by decide +kernel
theorem dX8_runnerLeaps_30 : decode cX8_runnerLeaps 30 = .ok (.dup, 1) := by decide +kernel
theorem dX8_runnerLeaps_31 : decode cX8_runnerLeaps 31 = .ok (.getfield 133, 3) := by decide +kernel
theorem dX8_runnerLeaps_34 : decode cX8_runnerLeaps 34 = .ok (.iconst 1, 1) := by decide +kernel
theorem dX8_runnerLeaps_35 : decode cX8_runnerLeaps 35 = .ok (.iadd, 1) := by decide +kernel
theorem dX8_runnerLeaps_36 : decode cX8_runnerLeaps 36 = .ok (.putfield 133, 3) := by decide +kernel
theorem dX8_runnerLeaps_39 : decode cX8_runnerLeaps 39 = .ok (.iconst (-1), 1) := by decide +kernel
theorem dX8_runnerLeaps_40 : decode cX8_runnerLeaps 40 = .ok (.ireturn, 1) := by decide +kernel
theorem dX8_runnerLeaps_41 : decode cX8_runnerLeaps 41 = .ok (.aload_n 0, 1) := by decide +kernel
theorem dX8_runnerLeaps_42 : decode cX8_runnerLeaps 42 = .ok (.getfield 40, 3) := by decide +kernel
theorem dX8_runnerLeaps_45 : decode cX8_runnerLeaps 45 = .ok (.aload_n 0, 1) := by decide +kernel
theorem dX8_runnerLeaps_46 : decode cX8_runnerLeaps 46 = .ok (.getfield 12, 3) := by decide +kernel
theorem dX8_runnerLeaps_49 : decode cX8_runnerLeaps 49 = .ok (.aload_n 0, 1) := by decide +kernel
theorem dX8_runnerLeaps_50 : decode cX8_runnerLeaps 50 = .ok (.getfield 12, 3) := by decide +kernel
theorem dX8_runnerLeaps_53 : decode cX8_runnerLeaps 53 = .ok (.getfield 137, 3) := by decide +kernel
theorem dX8_runnerLeaps_56 : decode cX8_runnerLeaps 56 = .ok (.aload_n 0, 1) := by decide +kernel
theorem dX8_runnerLeaps_57 : decode cX8_runnerLeaps 57 = .ok (.getfield 12, 3) := by decide +kernel
theorem dX8_runnerLeaps_60 : decode cX8_runnerLeaps 60 = .ok (.getfield 140, 3) := by decide +kernel
theorem dX8_runnerLeaps_63 : decode cX8_runnerLeaps 63 = .ok (.iload_n 1, 1) := by decide +kernel
theorem dX8_runnerLeaps_64 : decode cX8_runnerLeaps 64 = .ok (.iload_n 2, 1) := by decide +kernel
theorem dX8_runnerLeaps_65 : decode cX8_runnerLeaps 65 = .ok (.invokevirtual 329, 3) := by decide +kernel
theorem dX8_runnerLeaps_68 : decode cX8_runnerLeaps 68 = .ok (.aload_n 0, 1) := by decide +kernel
theorem dX8_runnerLeaps_69 : decode cX8_runnerLeaps 69 = .ok (.getfield 12, 3) := by decide +kernel
theorem dX8_runnerLeaps_72 : decode cX8_runnerLeaps 72 = .ok (.aload_n 0, 1) := by decide +kernel
theorem dX8_runnerLeaps_73 : decode cX8_runnerLeaps 73 = .ok (.getfield 40, 3) := by decide +kernel
theorem dX8_runnerLeaps_76 : decode cX8_runnerLeaps 76 = .ok (.getfield 333, 3) := by decide +kernel
theorem dX8_runnerLeaps_79 : decode cX8_runnerLeaps 79 = .ok (.putfield 137, 3) := by decide +kernel
theorem dX8_runnerLeaps_82 : decode cX8_runnerLeaps 82 = .ok (.aload_n 0, 1) := by decide +kernel
theorem dX8_runnerLeaps_83 : decode cX8_runnerLeaps 83 = .ok (.getfield 12, 3) := by decide +kernel
theorem dX8_runnerLeaps_86 : decode cX8_runnerLeaps 86 = .ok (.aload_n 0, 1) := by decide +kernel
theorem dX8_runnerLeaps_87 : decode cX8_runnerLeaps 87 = .ok (.getfield 40, 3) := by decide +kernel
theorem dX8_runnerLeaps_90 : decode cX8_runnerLeaps 90 = .ok (.getfield 334, 3) := by decide +kernel
theorem dX8_runnerLeaps_93 : decode cX8_runnerLeaps 93 = .ok (.putfield 140, 3) := by decide +kernel
theorem dX8_runnerLeaps_96 : decode cX8_runnerLeaps 96 = .ok (.aload_n 0, 1) := by decide +kernel
theorem dX8_runnerLeaps_97 : decode cX8_runnerLeaps 97 = .ok (.getfield 12, 3) := by decide +kernel
theorem dX8_runnerLeaps_100 : decode cX8_runnerLeaps 100 = .ok (.dup, 1) := by decide +kernel
theorem dX8_runnerLeaps_101 : decode cX8_runnerLeaps 101 = .ok (.getfield 335, 3) := by decide +kernel
theorem dX8_runnerLeaps_104 : decode cX8_runnerLeaps 104 = .ok (.iconst 1, 1) := by decide +kernel
theorem dX8_runnerLeaps_105 : decode cX8_runnerLeaps 105 = .ok (.iadd, 1) := by decide +kernel
theorem dX8_runnerLeaps_106 : decode cX8_runnerLeaps 106 = .ok (.putfield 335, 3) := by decide +kernel
theorem dX8_runnerLeaps_109 : decode cX8_runnerLeaps 109 = .ok (.aload_n 0, 1) := by decide +kernel
theorem dX8_runnerLeaps_110 : decode cX8_runnerLeaps 110 = .ok (.getfield 40, 3) := by decide +kernel
theorem dX8_runnerLeaps_113 : decode cX8_runnerLeaps 113 = .ok (.getfield 338, 3) := by decide +kernel
theorem dX8_runnerLeaps_116 : decode cX8_runnerLeaps 116 = .ok (.ifCond .eq 16, 3) := by decide +kernel
theorem dX8_runnerLeaps_119 : decode cX8_runnerLeaps 119 = .ok (.aload_n 0, 1) := by decide +kernel
theorem dX8_runnerLeaps_120 : decode cX8_runnerLeaps 120 = .ok (.getfield 12, 3) := by decide +kernel
theorem dX8_runnerLeaps_123 : decode cX8_runnerLeaps 123 = .ok (.dup, 1) := by decide +kernel
theorem dX8_runnerLeaps_124 : decode cX8_runnerLeaps 124 = .ok (.getfield 341, 3) := by decide +kernel
theorem dX8_runnerLeaps_127 : decode cX8_runnerLeaps 127 = .ok (.iconst 1, 1) := by decide +kernel
theorem dX8_runnerLeaps_128 : decode cX8_runnerLeaps 128 = .ok (.iadd, 1) := by decide +kernel
theorem dX8_runnerLeaps_129 : decode cX8_runnerLeaps 129 = .ok (.putfield 341, 3) := by decide +kernel
theorem dX8_runnerLeaps_132 : decode cX8_runnerLeaps 132 = .ok (.bipush 100, 2) := by decide +kernel
theorem dX8_runnerLeaps_134 : decode cX8_runnerLeaps 134 = .ok (.aload_n 0, 1) := by decide +kernel
theorem dX8_runnerLeaps_135 : decode cX8_runnerLeaps 135 = .ok (.getfield 12, 3) := by decide +kernel
theorem dX8_runnerLeaps_138 : decode cX8_runnerLeaps 138 = .ok (.getfield 140, 3) := by decide +kernel
theorem dX8_runnerLeaps_141 : decode cX8_runnerLeaps 141 = .ok (.imul, 1) := by decide +kernel
theorem dX8_runnerLeaps_142 : decode cX8_runnerLeaps 142 = .ok (.aload_n 0, 1) := by decide +kernel
theorem dX8_runnerLeaps_143 : decode cX8_runnerLeaps 143 = .ok (.getfield 12, 3) := by decide +kernel
theorem dX8_runnerLeaps_146 : decode cX8_runnerLeaps 146 = .ok (.getfield 137, 3) := by decide +kernel
theorem dX8_runnerLeaps_149 : decode cX8_runnerLeaps 149 = .ok (.iadd, 1) := by decide +kernel
theorem dX8_runnerLeaps_150 : decode cX8_runnerLeaps 150 = .ok (.ireturn, 1) := by decide +kernel
set_option maxRecDepth 20000 in
theorem ggX8_cellNumber_X7_isBlock : GoodIn wsX8_cellNumber wsX7_isBlock := goodIn_r _ [7, 8, 40, 41, 42, 43, 44, 45, 46] (by decide +kernel) (by decide +kernel)
set_option maxRecDepth 20000 in
theorem gX8_cellNumber_X7_isBlock : GoodIn wsX8_cellNumber (wsV RX8 323 RX7 yX7_isBlock wsX7_isBlock) := goodIn_app (goodIn_of _ (by decide +kernel)) ggX8_cellNumber_X7_isBlock
set_option maxRecDepth 20000 in
theorem ggX8_cellNumber_X7_canStand : GoodIn wsX8_cellNumber wsX7_canStand := goodIn_r _ [12, 13, 4, 5, 6, 7, 8, 40, 41, 42, 43, 44, 45, 46] (by decide +kernel) (by decide +kernel)
set_option maxRecDepth 20000 in
theorem gX8_cellNumber_X7_canStand : GoodIn wsX8_cellNumber (wsV RX8 130 RX7 yX7_canStand wsX7_canStand) := goodIn_app (goodIn_of _ (by decide +kernel)) ggX8_cellNumber_X7_canStand
set_option maxRecDepth 20000 in
theorem ggX8_cellNumber_X2_ledgeAt : GoodIn wsX8_cellNumber wsX2_ledgeAt := goodIn_r _ [18, 19, 20, 21, 22, 23, 24, 47, 48, 49, 50, 51] (by decide +kernel) (by decide +kernel)
set_option maxRecDepth 20000 in
theorem gX8_cellNumber_X2_ledgeAt : GoodIn wsX8_cellNumber (wsV RX8 146 RX2 yX2_ledgeAt wsX2_ledgeAt) := goodIn_app (goodIn_of _ (by decide +kernel)) ggX8_cellNumber_X2_ledgeAt
set_option maxRecDepth 20000 in
theorem ggX8_cellNumber_X7_greatestRunUp : GoodIn wsX8_cellNumber wsX7_greatestRunUp := goodIn_r _ [28, 29, 10, 11, 6, 12, 13, 4, 5, 7, 8, 40, 41, 42, 43, 44, 45, 46] (by decide +kernel) (by decide +kernel)
set_option maxRecDepth 20000 in
theorem gX8_cellNumber_X7_greatestRunUp : GoodIn wsX8_cellNumber (wsV RX8 326 RX7 yX7_greatestRunUp wsX7_greatestRunUp) := goodIn_app (goodIn_of _ (by decide +kernel)) ggX8_cellNumber_X7_greatestRunUp
theorem dX8_cellNumber_0 : decode cX8_cellNumber 0 = .ok (.iload_n 3, 1) := by decide +kernel
theorem dX8_cellNumber_1 : decode cX8_cellNumber 1 = .ok (.tableswitch 88 0 3 #[31, 49, 67, 77], 31) := by decide +kernel
theorem dX8_cellNumber_32 : decode cX8_cellNumber 32 = .ok (.aload_n 0, 1) := by decide +kernel
theorem dX8_cellNumber_33 : decode cX8_cellNumber 33 = .ok (.getfield 12, 3) := by decide +kernel
theorem dX8_cellNumber_36 : decode cX8_cellNumber 36 = .ok (.iload_n 1, 1) := by decide +kernel
theorem dX8_cellNumber_37 : decode cX8_cellNumber 37 = .ok (.iload_n 2, 1) := by decide +kernel
theorem dX8_cellNumber_38 : decode cX8_cellNumber 38 = .ok (.invokevirtual 323, 3) := by decide +kernel
theorem dX8_cellNumber_41 : decode cX8_cellNumber 41 = .ok (.ifCond .eq 7, 3) := by decide +kernel
theorem dX8_cellNumber_44 : decode cX8_cellNumber 44 = .ok (.iconst 1, 1) := by decide +kernel
theorem dX8_cellNumber_45 : decode cX8_cellNumber 45 = .ok (.goto 4, 3) := by decide +kernel
theorem dX8_cellNumber_48 : decode cX8_cellNumber 48 = .ok (.iconst 0, 1) := by decide +kernel
theorem dX8_cellNumber_49 : decode cX8_cellNumber 49 = .ok (.ireturn, 1) := by decide +kernel
theorem dX8_cellNumber_50 : decode cX8_cellNumber 50 = .ok (.aload_n 0, 1) := by decide +kernel
theorem dX8_cellNumber_51 : decode cX8_cellNumber 51 = .ok (.getfield 12, 3) := by decide +kernel
theorem dX8_cellNumber_54 : decode cX8_cellNumber 54 = .ok (.iload_n 1, 1) := by decide +kernel
theorem dX8_cellNumber_55 : decode cX8_cellNumber 55 = .ok (.iload_n 2, 1) := by decide +kernel
theorem dX8_cellNumber_56 : decode cX8_cellNumber 56 = .ok (.invokevirtual 130, 3) := by decide +kernel
theorem dX8_cellNumber_59 : decode cX8_cellNumber 59 = .ok (.ifCond .eq 7, 3) := by decide +kernel
theorem dX8_cellNumber_62 : decode cX8_cellNumber 62 = .ok (.iconst 1, 1) := by decide +kernel
theorem dX8_cellNumber_63 : decode cX8_cellNumber 63 = .ok (.goto 4, 3) := by decide +kernel
theorem dX8_cellNumber_66 : decode cX8_cellNumber 66 = .ok (.iconst 0, 1) := by decide +kernel
theorem dX8_cellNumber_67 : decode cX8_cellNumber 67 = .ok (.ireturn, 1) := by decide +kernel
theorem dX8_cellNumber_68 : decode cX8_cellNumber 68 = .ok (.aload_n 0, 1) := by decide +kernel
theorem dX8_cellNumber_69 : decode cX8_cellNumber 69 = .ok (.getfield 47, 3) := by decide +kernel
theorem dX8_cellNumber_72 : decode cX8_cellNumber 72 = .ok (.iload_n 1, 1) := by decide +kernel
theorem dX8_cellNumber_73 : decode cX8_cellNumber 73 = .ok (.iload_n 2, 1) := by decide +kernel
theorem dX8_cellNumber_74 : decode cX8_cellNumber 74 = .ok (.invokevirtual 146, 3) := by decide +kernel
theorem dX8_cellNumber_77 : decode cX8_cellNumber 77 = .ok (.ireturn, 1) := by decide +kernel
theorem dX8_cellNumber_78 : decode cX8_cellNumber 78 = .ok (.aload_n 0, 1) := by decide +kernel
theorem dX8_cellNumber_79 : decode cX8_cellNumber 79 = .ok (.getfield 12, 3) := by decide +kernel
theorem dX8_cellNumber_82 : decode cX8_cellNumber 82 = .ok (.iload_n 1, 1) := by decide +kernel
theorem dX8_cellNumber_83 : decode cX8_cellNumber 83 = .ok (.iload_n 2, 1) := by decide +kernel
theorem dX8_cellNumber_84 : decode cX8_cellNumber 84 = .ok (.iconst 1, 1) := by decide +kernel
theorem dX8_cellNumber_85 : decode cX8_cellNumber 85 = .ok (.invokevirtual 326, 3) := by decide +kernel
theorem dX8_cellNumber_88 : decode cX8_cellNumber 88 = .ok (.ireturn, 1) := by decide +kernel
theorem dX8_cellNumber_89 : decode cX8_cellNumber 89 = .ok (.aload_n 0, 1) := by decide +kernel
theorem dX8_cellNumber_90 : decode cX8_cellNumber 90 = .ok (.getfield 12, 3) := by decide +kernel
theorem dX8_cellNumber_93 : decode cX8_cellNumber 93 = .ok (.iload_n 1, 1) := by decide +kernel
theorem dX8_cellNumber_94 : decode cX8_cellNumber 94 = .ok (.iload_n 2, 1) := by decide +kernel
theorem dX8_cellNumber_95 : decode cX8_cellNumber 95 = .ok (.iconst (-1), 1) := by decide +kernel
theorem dX8_cellNumber_96 : decode cX8_cellNumber 96 = .ok (.invokevirtual 326, 3) := by decide +kernel
theorem dX8_cellNumber_99 : decode cX8_cellNumber 99 = .ok (.ireturn, 1) := by decide +kernel
set_option maxRecDepth 20000 in
theorem ggX8_ledgeNumber_X8_at : GoodIn wsX8_ledgeNumber wsX8_at := goodIn_r _ [9] (by decide +kernel) (by decide +kernel)
set_option maxRecDepth 20000 in
theorem gX8_ledgeNumber_X8_at : GoodIn wsX8_ledgeNumber (va_wsS RX8 94 yX8_at wsX8_at) := goodIn_app (goodIn_of _ (by decide +kernel)) ggX8_ledgeNumber_X8_at
set_option maxRecDepth 20000 in
theorem ggX8_ledgeNumber_X4_othersFrom : GoodIn wsX8_ledgeNumber wsX4_othersFrom := goodIn_r _ [14, 15, 16, 17, 18, 13, 19, 20, 21, 22, 23, 24, 7, 8, 9, 44, 45, 46] (by decide +kernel) (by decide +kernel)
set_option maxRecDepth 20000 in
theorem gX8_ledgeNumber_X4_othersFrom : GoodIn wsX8_ledgeNumber (wsV RX8 364 RX4 yX4_othersFrom wsX4_othersFrom) := goodIn_app (goodIn_of _ (by decide +kernel)) ggX8_ledgeNumber_X4_othersFrom
set_option maxRecDepth 20000 in
theorem ggX8_ledgeNumber_X4_othersTo : GoodIn wsX8_ledgeNumber wsX4_othersTo := goodIn_r _ [28, 15, 16, 17, 18, 13, 19, 20, 21, 22, 23, 24, 7, 8, 9, 44, 45, 46] (by decide +kernel) (by decide +kernel)
set_option maxRecDepth 20000 in
theorem gX8_ledgeNumber_X4_othersTo : GoodIn wsX8_ledgeNumber (wsV RX8 367 RX4 yX4_othersTo wsX4_othersTo) := goodIn_app (goodIn_of _ (by decide +kernel)) ggX8_ledgeNumber_X4_othersTo
theorem dX8_ledgeNumber_0 : decode cX8_ledgeNumber 0 = .ok (.iload_n 2, 1) := by decide +kernel
theorem dX8_ledgeNumber_1 : decode cX8_ledgeNumber 1 = .ok (.tableswitch 91 0 4 #[35, 47, 59, 71, 81], 35) := by decide +kernel
theorem dX8_ledgeNumber_36 : decode cX8_ledgeNumber 36 = .ok (.aload_n 0, 1) := by decide +kernel
theorem dX8_ledgeNumber_37 : decode cX8_ledgeNumber 37 = .ok (.getfield 47, 3) := by decide +kernel
theorem dX8_ledgeNumber_40 : decode cX8_ledgeNumber 40 = .ok (.getfield 355, 3) := by decide +kernel
theorem dX8_ledgeNumber_43 : decode cX8_ledgeNumber 43 = .ok (.iload_n 1, 1) := by decide +kernel
theorem dX8_ledgeNumber_44 : decode cX8_ledgeNumber 44 = .ok (.invokestatic 94, 3) := by decide +kernel
theorem dX8_ledgeNumber_47 : decode cX8_ledgeNumber 47 = .ok (.ireturn, 1) := by decide +kernel
theorem dX8_ledgeNumber_48 : decode cX8_ledgeNumber 48 = .ok (.aload_n 0, 1) := by decide +kernel
theorem dX8_ledgeNumber_49 : decode cX8_ledgeNumber 49 = .ok (.getfield 47, 3) := by decide +kernel
theorem dX8_ledgeNumber_52 : decode cX8_ledgeNumber 52 = .ok (.getfield 358, 3) := by decide +kernel
theorem dX8_ledgeNumber_55 : decode cX8_ledgeNumber 55 = .ok (.iload_n 1, 1) := by decide +kernel
theorem dX8_ledgeNumber_56 : decode cX8_ledgeNumber 56 = .ok (.invokestatic 94, 3) := by decide +kernel
theorem dX8_ledgeNumber_59 : decode cX8_ledgeNumber 59 = .ok (.ireturn, 1) := by decide +kernel
theorem dX8_ledgeNumber_60 : decode cX8_ledgeNumber 60 = .ok (.aload_n 0, 1) := by decide +kernel
theorem dX8_ledgeNumber_61 : decode cX8_ledgeNumber 61 = .ok (.getfield 47, 3) := by decide +kernel
theorem dX8_ledgeNumber_64 : decode cX8_ledgeNumber 64 = .ok (.getfield 361, 3) := by decide +kernel
theorem dX8_ledgeNumber_67 : decode cX8_ledgeNumber 67 = .ok (.iload_n 1, 1) := by decide +kernel
theorem dX8_ledgeNumber_68 : decode cX8_ledgeNumber 68 = .ok (.invokestatic 94, 3) := by decide +kernel
theorem dX8_ledgeNumber_71 : decode cX8_ledgeNumber 71 = .ok (.ireturn, 1) := by decide +kernel
theorem dX8_ledgeNumber_72 : decode cX8_ledgeNumber 72 = .ok (.aload_n 0, 1) := by decide +kernel
theorem dX8_ledgeNumber_73 : decode cX8_ledgeNumber 73 = .ok (.getfield 54, 3) := by decide +kernel
theorem dX8_ledgeNumber_76 : decode cX8_ledgeNumber 76 = .ok (.iload_n 1, 1) := by decide +kernel
theorem dX8_ledgeNumber_77 : decode cX8_ledgeNumber 77 = .ok (.iconst 3, 1) := by decide +kernel
theorem dX8_ledgeNumber_78 : decode cX8_ledgeNumber 78 = .ok (.invokevirtual 364, 3) := by decide +kernel
theorem dX8_ledgeNumber_81 : decode cX8_ledgeNumber 81 = .ok (.ireturn, 1) := by decide +kernel
theorem dX8_ledgeNumber_82 : decode cX8_ledgeNumber 82 = .ok (.aload_n 0, 1) := by decide +kernel
theorem dX8_ledgeNumber_83 : decode cX8_ledgeNumber 83 = .ok (.getfield 54, 3) := by decide +kernel
theorem dX8_ledgeNumber_86 : decode cX8_ledgeNumber 86 = .ok (.iload_n 1, 1) := by decide +kernel
theorem dX8_ledgeNumber_87 : decode cX8_ledgeNumber 87 = .ok (.iconst 0, 1) := by decide +kernel
theorem dX8_ledgeNumber_88 : decode cX8_ledgeNumber 88 = .ok (.invokevirtual 364, 3) := by decide +kernel
theorem dX8_ledgeNumber_91 : decode cX8_ledgeNumber 91 = .ok (.ireturn, 1) := by decide +kernel
theorem dX8_ledgeNumber_92 : decode cX8_ledgeNumber 92 = .ok (.aload_n 0, 1) := by decide +kernel
theorem dX8_ledgeNumber_93 : decode cX8_ledgeNumber 93 = .ok (.getfield 54, 3) := by decide +kernel
theorem dX8_ledgeNumber_96 : decode cX8_ledgeNumber 96 = .ok (.iload_n 1, 1) := by decide +kernel
theorem dX8_ledgeNumber_97 : decode cX8_ledgeNumber 97 = .ok (.invokevirtual 367, 3) := by decide +kernel
theorem dX8_ledgeNumber_100 : decode cX8_ledgeNumber 100 = .ok (.ireturn, 1) := by decide +kernel
set_option maxRecDepth 20000 in
theorem ggX8_countedNumber_X7_blockCount : GoodIn wsX8_countedNumber wsX7_blockCount := goodIn_r _ [15, 16, 17, 18, 19, 20, 21, 22, 23, 69, 70, 71, 72, 73, 74, 75] (by decide +kernel) (by decide +kernel)
set_option maxRecDepth 20000 in
theorem gX8_countedNumber_X7_blockCount : GoodIn wsX8_countedNumber (wsV RX8 200 RX7 yX7_blockCount wsX7_blockCount) := goodIn_app (goodIn_of _ (by decide +kernel)) ggX8_countedNumber_X7_blockCount
set_option maxRecDepth 20000 in
theorem ggX8_countedNumber_X8_runnersLedge : GoodIn wsX8_countedNumber wsX8_runnersLedge := goodIn_r _ [28, 2, 1, 4, 5, 29, 30, 31, 32, 33, 34, 35, 27, 36, 37, 38, 54, 55, 56, 57, 58, 59, 60, 61, 62, 63, 69, 70, 71, 72, 73, 74, 75, 64, 65, 66, 67, 68] (by decide +kernel) (by decide +kernel)
set_option maxRecDepth 20000 in
theorem gX8_countedNumber_X8_runnersLedge : GoodIn wsX8_countedNumber (wsV RX8 371 RX8 yX8_runnersLedge wsX8_runnersLedge) := goodIn_app (goodIn_of _ (by decide +kernel)) ggX8_countedNumber_X8_runnersLedge
set_option maxRecDepth 20000 in
theorem ggX8_countedNumber_X8_reachedLedges : GoodIn wsX8_countedNumber wsX8_reachedLedges := goodIn_r _ [42, 2, 3, 43, 44, 45, 27, 46, 47, 48, 49, 50, 51, 52, 53, 37, 38, 54, 55, 56, 57, 58, 59, 60, 61, 62, 63, 64, 65, 66, 67, 68, 78, 79, 80, 81, 82] (by decide +kernel) (by decide +kernel)
set_option maxRecDepth 20000 in
theorem gX8_countedNumber_X8_reachedLedges : GoodIn wsX8_countedNumber (wsV RX8 374 RX8 yX8_reachedLedges wsX8_reachedLedges) := goodIn_app (goodIn_of _ (by decide +kernel)) ggX8_countedNumber_X8_reachedLedges
theorem dX8_countedNumber_0 : decode cX8_countedNumber 0 = .ok (.iload_n 1, 1) := by decide +kernel
theorem dX8_countedNumber_1 : decode cX8_countedNumber 1 = .ok (.tableswitch 125 0 8 #[51, 59, 67, 75, 83, 88, 96, 104, 112], 51) := by decide +kernel
theorem dX8_countedNumber_52 : decode cX8_countedNumber 52 = .ok (.aload_n 0, 1) := by decide +kernel
theorem dX8_countedNumber_53 : decode cX8_countedNumber 53 = .ok (.getfield 12, 3) := by decide +kernel
theorem dX8_countedNumber_56 : decode cX8_countedNumber 56 = .ok (.invokevirtual 200, 3) := by decide +kernel
theorem dX8_countedNumber_59 : decode cX8_countedNumber 59 = .ok (.ireturn, 1) := by decide +kernel
theorem dX8_countedNumber_60 : decode cX8_countedNumber 60 = .ok (.aload_n 0, 1) := by decide +kernel
theorem dX8_countedNumber_61 : decode cX8_countedNumber 61 = .ok (.getfield 47, 3) := by decide +kernel
theorem dX8_countedNumber_64 : decode cX8_countedNumber 64 = .ok (.getfield 370, 3) := by decide +kernel
theorem dX8_countedNumber_67 : decode cX8_countedNumber 67 = .ok (.ireturn, 1) := by decide +kernel
theorem dX8_countedNumber_68 : decode cX8_countedNumber 68 = .ok (.aload_n 0, 1) := by decide +kernel
theorem dX8_countedNumber_69 : decode cX8_countedNumber 69 = .ok (.getfield 12, 3) := by decide +kernel
theorem dX8_countedNumber_72 : decode cX8_countedNumber 72 = .ok (.getfield 137, 3) := by decide +kernel
theorem dX8_countedNumber_75 : decode cX8_countedNumber 75 = .ok (.ireturn, 1) := by decide +kernel
theorem dX8_countedNumber_76 : decode cX8_countedNumber 76 = .ok (.aload_n 0, 1) := by decide +kernel
theorem dX8_countedNumber_77 : decode cX8_countedNumber 77 = .ok (.getfield 12, 3) := by decide +kernel
theorem dX8_countedNumber_80 : decode cX8_countedNumber 80 = .ok (.getfield 140, 3) := by decide +kernel
theorem dX8_countedNumber_83 : decode cX8_countedNumber 83 = .ok (.ireturn, 1) := by decide +kernel
theorem dX8_countedNumber_84 : decode cX8_countedNumber 84 = .ok (.aload_n 0, 1) := by decide +kernel
theorem dX8_countedNumber_85 : decode cX8_countedNumber 85 = .ok (.invokevirtual 371, 3) := by decide +kernel
theorem dX8_countedNumber_88 : decode cX8_countedNumber 88 = .ok (.ireturn, 1) := by decide +kernel
theorem dX8_countedNumber_89 : decode cX8_countedNumber 89 = .ok (.aload_n 0, 1) := by decide +kernel
theorem dX8_countedNumber_90 : decode cX8_countedNumber 90 = .ok (.getfield 12, 3) := by decide +kernel
theorem dX8_countedNumber_93 : decode cX8_countedNumber 93 = .ok (.getfield 335, 3) := by decide +kernel
theorem dX8_countedNumber_96 : decode cX8_countedNumber 96 = .ok (.ireturn, 1) := by decide +kernel
theorem dX8_countedNumber_97 : decode cX8_countedNumber 97 = .ok (.aload_n 0, 1) := by decide +kernel
theorem dX8_countedNumber_98 : decode cX8_countedNumber 98 = .ok (.getfield 12, 3) := by decide +kernel
theorem dX8_countedNumber_101 : decode cX8_countedNumber 101 = .ok (.getfield 341, 3) := by decide +kernel
theorem dX8_countedNumber_104 : decode cX8_countedNumber 104 = .ok (.ireturn, 1) := by decide +kernel
theorem dX8_countedNumber_105 : decode cX8_countedNumber 105 = .ok (.aload_n 0, 1) := by decide +kernel
theorem dX8_countedNumber_106 : decode cX8_countedNumber 106 = .ok (.getfield 12, 3) := by decide +kernel
theorem dX8_countedNumber_109 : decode cX8_countedNumber 109 = .ok (.getfield 133, 3) := by decide +kernel
theorem dX8_countedNumber_112 : decode cX8_countedNumber 112 = .ok (.ireturn, 1) := by decide +kernel
theorem dX8_countedNumber_113 : decode cX8_countedNumber 113 = .ok (.aload_n 0, 1) := by decide +kernel
theorem dX8_countedNumber_114 : decode cX8_countedNumber 114 = .ok (.getfield 47, 3) := by decide +kernel
theorem dX8_countedNumber_117 : decode cX8_countedNumber 117 = .ok (.getfield 370, 3) := by decide +kernel
theorem dX8_countedNumber_120 : decode cX8_countedNumber 120 = .ok (.aload_n 0, 1) := by decide +kernel
theorem dX8_countedNumber_121 : decode cX8_countedNumber 121 = .ok (.invokevirtual 374, 3) := by decide +kernel
theorem dX8_countedNumber_124 : decode cX8_countedNumber 124 = .ok (.isub, 1) := by decide +kernel
theorem dX8_countedNumber_125 : decode cX8_countedNumber 125 = .ok (.ireturn, 1) := by decide +kernel
theorem dX8_countedNumber_126 : decode cX8_countedNumber 126 = .ok (.aload_n 0, 1) := by decide +kernel
theorem dX8_countedNumber_127 : decode cX8_countedNumber 127 = .ok (.getfield 19, 3) := by decide +kernel
theorem dX8_countedNumber_130 : decode cX8_countedNumber 130 = .ok (.getfield 211, 3) := by decide +kernel
theorem dX8_countedNumber_133 : decode cX8_countedNumber 133 = .ok (.ireturn, 1) := by decide +kernel
set_option maxRecDepth 20000 in
theorem ggX8_runnersLedge_X2_ledgeAt : GoodIn wsX8_runnersLedge wsX2_ledgeAt := goodIn_r _ [9, 10, 11, 12, 13, 14, 15, 33, 34, 35, 36, 37] (by decide +kernel) (by decide +kernel)
set_option maxRecDepth 20000 in
theorem gX8_runnersLedge_X2_ledgeAt : GoodIn wsX8_runnersLedge (wsV RX8 146 RX2 yX2_ledgeAt wsX2_ledgeAt) := goodIn_app (goodIn_of _ (by decide +kernel)) ggX8_runnersLedge_X2_ledgeAt
theorem dX8_runnersLedge_0 : decode cX8_runnersLedge 0 = .ok (.aload_n 0, 1) := by decide +kernel
theorem dX8_runnersLedge_1 : decode cX8_runnersLedge 1 = .ok (.getfield 47, 3) := by decide +kernel
theorem dX8_runnersLedge_4 : decode cX8_runnersLedge 4 = .ok (.aload_n 0, 1) := by decide +kernel
theorem dX8_runnersLedge_5 : decode cX8_runnersLedge 5 = .ok (.getfield 12, 3) := by decide +kernel
theorem dX8_runnersLedge_8 : decode cX8_runnersLedge 8 = .ok (.getfield 137, 3) := by decide +kernel
theorem dX8_runnersLedge_11 : decode cX8_runnersLedge 11 = .ok (.aload_n 0, 1) := by decide +kernel
theorem dX8_runnersLedge_12 : decode cX8_runnersLedge 12 = .ok (.getfield 12, 3) := by decide +kernel
theorem dX8_runnersLedge_15 : decode cX8_runnersLedge 15 = .ok (.getfield 140, 3) := by decide +kernel
theorem dX8_runnersLedge_18 : decode cX8_runnersLedge 18 = .ok (.invokevirtual 146, 3) := by decide +kernel
theorem dX8_runnersLedge_21 : decode cX8_runnersLedge 21 = .ok (.ireturn, 1) := by decide +kernel
set_option maxRecDepth 20000 in
theorem ggX8_arcNumber_X8_at : GoodIn wsX8_arcNumber wsX8_at := goodIn_r _ [6] (by decide +kernel) (by decide +kernel)
set_option maxRecDepth 20000 in
theorem gX8_arcNumber_X8_at : GoodIn wsX8_arcNumber (va_wsS RX8 94 yX8_at wsX8_at) := goodIn_app (goodIn_of _ (by decide +kernel)) ggX8_arcNumber_X8_at
set_option maxRecDepth 20000 in
theorem ggX8_arcNumber_X8_heightByTicks : GoodIn wsX8_arcNumber wsX8_heightByTicks := goodIn_r _ [9, 10, 11, 12, 13] (by decide +kernel) (by decide +kernel)
set_option maxRecDepth 20000 in
theorem gX8_arcNumber_X8_heightByTicks : GoodIn wsX8_arcNumber (va_wsS RX8 377 yX8_heightByTicks wsX8_heightByTicks) := goodIn_app (goodIn_of _ (by decide +kernel)) ggX8_arcNumber_X8_heightByTicks
set_option maxRecDepth 20000 in
theorem ggX8_arcNumber_X8_heightAtOnce : GoodIn wsX8_arcNumber wsX8_heightAtOnce := goodIn_r _ [16, 17, 18, 12, 19] (by decide +kernel) (by decide +kernel)
set_option maxRecDepth 20000 in
theorem gX8_arcNumber_X8_heightAtOnce : GoodIn wsX8_arcNumber (va_wsS RX8 380 yX8_heightAtOnce wsX8_heightAtOnce) := goodIn_app (goodIn_of _ (by decide +kernel)) ggX8_arcNumber_X8_heightAtOnce
theorem dX8_arcNumber_0 : decode cX8_arcNumber 0 = .ok (.aload_n 0, 1) := by decide +kernel
theorem dX8_arcNumber_1 : decode cX8_arcNumber 1 = .ok (.getfield 12, 3) := by decide +kernel
theorem dX8_arcNumber_4 : decode cX8_arcNumber 4 = .ok (.getfield 103, 3) := by decide +kernel
theorem dX8_arcNumber_7 : decode cX8_arcNumber 7 = .ok (.iconst 0, 1) := by decide +kernel
theorem dX8_arcNumber_8 : decode cX8_arcNumber 8 = .ok (.invokestatic 94, 3) := by decide +kernel
theorem dX8_arcNumber_11 : decode cX8_arcNumber 11 = .ok (.istore_n 3, 1) := by decide +kernel
theorem dX8_arcNumber_12 : decode cX8_arcNumber 12 = .ok (.aload_n 0, 1) := by decide +kernel
theorem dX8_arcNumber_13 : decode cX8_arcNumber 13 = .ok (.getfield 12, 3) := by decide +kernel
theorem dX8_arcNumber_16 : decode cX8_arcNumber 16 = .ok (.getfield 103, 3) := by decide +kernel
theorem dX8_arcNumber_19 : decode cX8_arcNumber 19 = .ok (.iconst 1, 1) := by decide +kernel
theorem dX8_arcNumber_20 : decode cX8_arcNumber 20 = .ok (.invokestatic 94, 3) := by decide +kernel
theorem dX8_arcNumber_23 : decode cX8_arcNumber 23 = .ok (.istore 4, 2) := by decide +kernel
theorem dX8_arcNumber_25 : decode cX8_arcNumber 25 = .ok (.sipush 200, 3) := by decide +kernel
theorem dX8_arcNumber_28 : decode cX8_arcNumber 28 = .ok (.iload_n 2, 1) := by decide +kernel
theorem dX8_arcNumber_29 : decode cX8_arcNumber 29 = .ok (.ifCond .ne 13, 3) := by decide +kernel
theorem dX8_arcNumber_32 : decode cX8_arcNumber 32 = .ok (.iload_n 1, 1) := by decide +kernel
theorem dX8_arcNumber_33 : decode cX8_arcNumber 33 = .ok (.iload_n 3, 1) := by decide +kernel
theorem dX8_arcNumber_34 : decode cX8_arcNumber 34 = .ok (.iload 4, 2) := by decide +kernel
theorem dX8_arcNumber_36 : decode cX8_arcNumber 36 = .ok (.invokestatic 377, 3) := by decide +kernel
theorem dX8_arcNumber_39 : decode cX8_arcNumber 39 = .ok (.goto 10, 3) := by decide +kernel
theorem dX8_arcNumber_42 : decode cX8_arcNumber 42 = .ok (.iload_n 1, 1) := by decide +kernel
theorem dX8_arcNumber_43 : decode cX8_arcNumber 43 = .ok (.iload_n 3, 1) := by decide +kernel
theorem dX8_arcNumber_44 : decode cX8_arcNumber 44 = .ok (.iload 4, 2) := by decide +kernel
theorem dX8_arcNumber_46 : decode cX8_arcNumber 46 = .ok (.invokestatic 380, 3) := by decide +kernel
theorem dX8_arcNumber_49 : decode cX8_arcNumber 49 = .ok (.iadd, 1) := by decide +kernel
theorem dX8_arcNumber_50 : decode cX8_arcNumber 50 = .ok (.ireturn, 1) := by decide +kernel
theorem dX8_heightByTicks_0 : decode cX8_heightByTicks 0 = .ok (.iconst 0, 1) := by decide +kernel
theorem dX8_heightByTicks_1 : decode cX8_heightByTicks 1 = .ok (.istore_n 3, 1) := by decide +kernel
theorem dX8_heightByTicks_2 : decode cX8_heightByTicks 2 = .ok (.iload_n 1, 1) := by decide +kernel
theorem dX8_heightByTicks_3 : decode cX8_heightByTicks 3 = .ok (.istore 4, 2) := by decide +kernel
theorem dX8_heightByTicks_5 : decode cX8_heightByTicks 5 = .ok (.iconst 0, 1) := by decide +kernel
theorem dX8_heightByTicks_6 : decode cX8_heightByTicks 6 = .ok (.istore 5, 2) := by decide +kernel
theorem dX8_heightByTicks_8 : decode cX8_heightByTicks 8 = .ok (.iload 5, 2) := by decide +kernel
theorem dX8_heightByTicks_10 : decode cX8_heightByTicks 10 = .ok (.iload_n 0, 1) := by decide +kernel
theorem dX8_heightByTicks_11 : decode cX8_heightByTicks 11 = .ok (.if_icmp .ge 25, 3) := by decide +kernel
theorem dX8_heightByTicks_14 : decode cX8_heightByTicks 14 = .ok (.iload_n 3, 1) := by decide +kernel
theorem dX8_heightByTicks_15 : decode cX8_heightByTicks 15 = .ok (.iload 4, 2) := by decide +kernel
theorem dX8_heightByTicks_17 : decode cX8_heightByTicks 17 = .ok (.iadd, 1) := by decide +kernel
theorem dX8_heightByTicks_18 : decode cX8_heightByTicks 18 = .ok (.istore_n 3, 1) := by decide +kernel
theorem dX8_heightByTicks_19 : decode cX8_heightByTicks 19 = .ok (.iload 4, 2) := by decide +kernel
theorem dX8_heightByTicks_21 : decode cX8_heightByTicks 21 = .ok (.iconst 1, 1) := by decide +kernel
theorem dX8_heightByTicks_22 : decode cX8_heightByTicks 22 = .ok (.isub, 1) := by decide +kernel
theorem dX8_heightByTicks_23 : decode cX8_heightByTicks 23 = .ok (.iload_n 2, 1) := by decide +kernel
theorem dX8_heightByTicks_24 : decode cX8_heightByTicks 24 = .ok (.ineg, 1) := by decide +kernel
theorem dX8_heightByTicks_25 : decode cX8_heightByTicks 25 = .ok (.invokestatic 383, 3) := by decide +kernel
theorem dX8_heightByTicks_28 : decode cX8_heightByTicks 28 = .ok (.istore 4, 2) := by decide +kernel
theorem dX8_heightByTicks_30 : decode cX8_heightByTicks 30 = .ok (.iinc 5 1, 3) := by decide +kernel
theorem dX8_heightByTicks_33 : decode cX8_heightByTicks 33 = .ok (.goto (-25), 3) := by decide +kernel
theorem dX8_heightByTicks_36 : decode cX8_heightByTicks 36 = .ok (.iload_n 3, 1) := by decide +kernel
theorem dX8_heightByTicks_37 : decode cX8_heightByTicks 37 = .ok (.ireturn, 1) := by decide +kernel
theorem dX8_heightAtOnce_0 : decode cX8_heightAtOnce 0 = .ok (.iload_n 0, 1) := by decide +kernel
theorem dX8_heightAtOnce_1 : decode cX8_heightAtOnce 1 = .ok (.iload_n 1, 1) := by decide +kernel
theorem dX8_heightAtOnce_2 : decode cX8_heightAtOnce 2 = .ok (.iload_n 2, 1) := by decide +kernel
theorem dX8_heightAtOnce_3 : decode cX8_heightAtOnce 3 = .ok (.iadd, 1) := by decide +kernel
theorem dX8_heightAtOnce_4 : decode cX8_heightAtOnce 4 = .ok (.invokestatic 388, 3) := by decide +kernel
theorem dX8_heightAtOnce_7 : decode cX8_heightAtOnce 7 = .ok (.istore_n 3, 1) := by decide +kernel
theorem dX8_heightAtOnce_8 : decode cX8_heightAtOnce 8 = .ok (.iload_n 3, 1) := by decide +kernel
theorem dX8_heightAtOnce_9 : decode cX8_heightAtOnce 9 = .ok (.iload_n 1, 1) := by decide +kernel
theorem dX8_heightAtOnce_10 : decode cX8_heightAtOnce 10 = .ok (.imul, 1) := by decide +kernel
theorem dX8_heightAtOnce_11 : decode cX8_heightAtOnce 11 = .ok (.iload_n 3, 1) := by decide +kernel
theorem dX8_heightAtOnce_12 : decode cX8_heightAtOnce 12 = .ok (.iload_n 3, 1) := by decide +kernel
theorem dX8_heightAtOnce_13 : decode cX8_heightAtOnce 13 = .ok (.iconst 1, 1) := by decide +kernel
theorem dX8_heightAtOnce_14 : decode cX8_heightAtOnce 14 = .ok (.isub, 1) := by decide +kernel
theorem dX8_heightAtOnce_15 : decode cX8_heightAtOnce 15 = .ok (.imul, 1) := by decide +kernel
theorem dX8_heightAtOnce_16 : decode cX8_heightAtOnce 16 = .ok (.iconst 2, 1) := by decide +kernel
theorem dX8_heightAtOnce_17 : decode cX8_heightAtOnce 17 = .ok (.idiv, 1) := by decide +kernel
theorem dX8_heightAtOnce_18 : decode cX8_heightAtOnce 18 = .ok (.isub, 1) := by decide +kernel
theorem dX8_heightAtOnce_19 : decode cX8_heightAtOnce 19 = .ok (.iload_n 0, 1) := by decide +kernel
theorem dX8_heightAtOnce_20 : decode cX8_heightAtOnce 20 = .ok (.iload_n 3, 1) := by decide +kernel
theorem dX8_heightAtOnce_21 : decode cX8_heightAtOnce 21 = .ok (.isub, 1) := by decide +kernel
theorem dX8_heightAtOnce_22 : decode cX8_heightAtOnce 22 = .ok (.iload_n 2, 1) := by decide +kernel
theorem dX8_heightAtOnce_23 : decode cX8_heightAtOnce 23 = .ok (.imul, 1) := by decide +kernel
theorem dX8_heightAtOnce_24 : decode cX8_heightAtOnce 24 = .ok (.isub, 1) := by decide +kernel
theorem dX8_heightAtOnce_25 : decode cX8_heightAtOnce 25 = .ok (.ireturn, 1) := by decide +kernel
set_option maxRecDepth 20000 in
theorem ggX8_leapNumber_X7_greatestRunUp : GoodIn wsX8_leapNumber wsX7_greatestRunUp := goodIn_r _ [12, 13, 14, 15, 11, 16, 17, 18, 19, 20, 21, 75, 76, 77, 78, 79, 80, 81] (by decide +kernel) (by decide +kernel)
set_option maxRecDepth 20000 in
theorem gX8_leapNumber_X7_greatestRunUp : GoodIn wsX8_leapNumber (wsV RX8 326 RX7 yX7_greatestRunUp wsX7_greatestRunUp) := goodIn_app (goodIn_of _ (by decide +kernel)) ggX8_leapNumber_X7_greatestRunUp
set_option maxRecDepth 20000 in
theorem ggX8_leapNumber_X0_fly : GoodIn wsX8_leapNumber wsX0_fly := goodIn_r _ [26, 27, 28, 29, 30, 31, 32, 33, 34, 35, 36, 37, 38, 39, 40, 41, 42, 43, 44, 25, 45, 46, 18, 19, 11, 20, 21, 47, 48, 49, 50, 51, 52, 53, 54, 55, 56, 57, 68, 69, 70, 71, 72, 73, 74, 75, 76, 77, 78, 79, 80, 81] (by decide +kernel) (by decide +kernel)
set_option maxRecDepth 20000 in
theorem gX8_leapNumber_X0_fly : GoodIn wsX8_leapNumber (wsV RX8 329 RX0 yX0_fly wsX0_fly) := goodIn_app (goodIn_of _ (by decide +kernel)) ggX8_leapNumber_X0_fly
theorem dX8_leapNumber_0 : decode cX8_leapNumber 0 = .ok (.iload 4, 2) := by decide +kernel
theorem dX8_leapNumber_2 : decode cX8_leapNumber 2 = .ok (.aload_n 0, 1) := by decide +kernel
theorem dX8_leapNumber_3 : decode cX8_leapNumber 3 = .ok (.getfield 12, 3) := by decide +kernel
theorem dX8_leapNumber_6 : decode cX8_leapNumber 6 = .ok (.iload_n 1, 1) := by decide +kernel
theorem dX8_leapNumber_7 : decode cX8_leapNumber 7 = .ok (.iload_n 2, 1) := by decide +kernel
theorem dX8_leapNumber_8 : decode cX8_leapNumber 8 = .ok (.iload_n 3, 1) := by decide +kernel
theorem dX8_leapNumber_9 : decode cX8_leapNumber 9 = .ok (.invokevirtual 326, 3) := by decide +kernel
theorem dX8_leapNumber_12 : decode cX8_leapNumber 12 = .ok (.if_icmp .le 5, 3) := by decide +kernel
theorem dX8_leapNumber_15 : decode cX8_leapNumber 15 = .ok (.iconst (-1), 1) := by decide +kernel
theorem dX8_leapNumber_16 : decode cX8_leapNumber 16 = .ok (.ireturn, 1) := by decide +kernel
theorem dX8_leapNumber_17 : decode cX8_leapNumber 17 = .ok (.aload_n 0, 1) := by decide +kernel
theorem dX8_leapNumber_18 : decode cX8_leapNumber 18 = .ok (.getfield 40, 3) := by decide +kernel
theorem dX8_leapNumber_21 : decode cX8_leapNumber 21 = .ok (.aload_n 0, 1) := by decide +kernel
theorem dX8_leapNumber_22 : decode cX8_leapNumber 22 = .ok (.getfield 12, 3) := by decide +kernel
theorem dX8_leapNumber_25 : decode cX8_leapNumber 25 = .ok (.iload_n 1, 1) := by decide +kernel
theorem dX8_leapNumber_26 : decode cX8_leapNumber 26 = .ok (.iload_n 2, 1) := by decide +kernel
theorem dX8_leapNumber_27 : decode cX8_leapNumber 27 = .ok (.iload_n 3, 1) := by decide +kernel
theorem dX8_leapNumber_28 : decode cX8_leapNumber 28 = .ok (.iload 4, 2) := by decide +kernel
theorem dX8_leapNumber_30 : decode cX8_leapNumber 30 = .ok (.invokevirtual 329, 3) := by decide +kernel
theorem dX8_leapNumber_33 : decode cX8_leapNumber 33 = .ok (.iload 5, 2) := by decide +kernel
theorem dX8_leapNumber_35 : decode cX8_leapNumber 35 = .ok (.tableswitch 61 0 3 #[29, 37, 45, 53], 29) := by decide +kernel
theorem dX8_leapNumber_64 : decode cX8_leapNumber 64 = .ok (.aload_n 0, 1) := by decide +kernel
theorem dX8_leapNumber_65 : decode cX8_leapNumber 65 = .ok (.getfield 40, 3) := by decide +kernel
theorem dX8_leapNumber_68 : decode cX8_leapNumber 68 = .ok (.getfield 333, 3) := by decide +kernel
theorem dX8_leapNumber_71 : decode cX8_leapNumber 71 = .ok (.ireturn, 1) := by decide +kernel
theorem dX8_leapNumber_72 : decode cX8_leapNumber 72 = .ok (.aload_n 0, 1) := by decide +kernel
theorem dX8_leapNumber_73 : decode cX8_leapNumber 73 = .ok (.getfield 40, 3) := by decide +kernel
theorem dX8_leapNumber_76 : decode cX8_leapNumber 76 = .ok (.getfield 334, 3) := by decide +kernel
theorem dX8_leapNumber_79 : decode cX8_leapNumber 79 = .ok (.ireturn, 1) := by decide +kernel
theorem dX8_leapNumber_80 : decode cX8_leapNumber 80 = .ok (.aload_n 0, 1) := by decide +kernel
theorem dX8_leapNumber_81 : decode cX8_leapNumber 81 = .ok (.getfield 40, 3) := by decide +kernel
theorem dX8_leapNumber_84 : decode cX8_leapNumber 84 = .ok (.getfield 391, 3) := by decide +kernel
theorem dX8_leapNumber_87 : decode cX8_leapNumber 87 = .ok (.ireturn, 1) := by decide +kernel
theorem dX8_leapNumber_88 : decode cX8_leapNumber 88 = .ok (.aload_n 0, 1) := by decide +kernel
theorem dX8_leapNumber_89 : decode cX8_leapNumber 89 = .ok (.getfield 40, 3) := by decide +kernel
theorem dX8_leapNumber_92 : decode cX8_leapNumber 92 = .ok (.getfield 394, 3) := by decide +kernel
theorem dX8_leapNumber_95 : decode cX8_leapNumber 95 = .ok (.ireturn, 1) := by decide +kernel
theorem dX8_leapNumber_96 : decode cX8_leapNumber 96 = .ok (.aload_n 0, 1) := by decide +kernel
theorem dX8_leapNumber_97 : decode cX8_leapNumber 97 = .ok (.getfield 40, 3) := by decide +kernel
theorem dX8_leapNumber_100 : decode cX8_leapNumber 100 = .ok (.getfield 338, 3) := by decide +kernel
theorem dX8_leapNumber_103 : decode cX8_leapNumber 103 = .ok (.ifCond .eq 7, 3) := by decide +kernel
theorem dX8_leapNumber_106 : decode cX8_leapNumber 106 = .ok (.iconst 1, 1) := by decide +kernel
theorem dX8_leapNumber_107 : decode cX8_leapNumber 107 = .ok (.goto 4, 3) := by decide +kernel
theorem dX8_leapNumber_110 : decode cX8_leapNumber 110 = .ok (.iconst 0, 1) := by decide +kernel
theorem dX8_leapNumber_111 : decode cX8_leapNumber 111 = .ok (.ireturn, 1) := by decide +kernel
set_option maxRecDepth 20000 in
theorem ggX8_spreadFromRunner_X8_runnersLedge : GoodIn wsX8_spreadFromRunner wsX8_runnersLedge := goodIn_r _ [7, 8, 9, 10, 11, 12, 13, 14, 15, 16, 17, 18, 6, 19, 20, 21, 47, 48, 49, 50, 51, 52, 53, 54, 55, 56, 57, 58, 59, 60, 61, 62, 63, 64, 65, 66, 67, 68] (by decide +kernel) (by decide +kernel)
set_option maxRecDepth 20000 in
theorem gX8_spreadFromRunner_X8_runnersLedge : GoodIn wsX8_spreadFromRunner (wsV RX8 371 RX8 yX8_runnersLedge wsX8_runnersLedge) := goodIn_app (goodIn_of _ (by decide +kernel)) ggX8_spreadFromRunner_X8_runnersLedge
set_option maxRecDepth 20000 in
theorem ggX8_spreadFromRunner_X5_spreadFrom : GoodIn wsX8_spreadFromRunner wsX5_spreadFrom := goodIn_r _ [26, 27, 28, 29, 30, 20, 6, 21, 31, 32, 33, 34, 35, 25, 36, 37, 38, 39, 40, 41, 42, 43, 44, 45, 46, 69, 70, 71, 72, 73, 74, 75, 76] (by decide +kernel) (by decide +kernel)
set_option maxRecDepth 20000 in
theorem gX8_spreadFromRunner_X5_spreadFrom : GoodIn wsX8_spreadFromRunner (wsV RX8 258 RX5 yX5_spreadFrom wsX5_spreadFrom) := goodIn_app (goodIn_of _ (by decide +kernel)) ggX8_spreadFromRunner_X5_spreadFrom
theorem dX8_spreadFromRunner_0 : decode cX8_spreadFromRunner 0 = .ok (.aload_n 0, 1) := by decide +kernel
theorem dX8_spreadFromRunner_1 : decode cX8_spreadFromRunner 1 = .ok (.getfield 61, 3) := by decide +kernel
theorem dX8_spreadFromRunner_4 : decode cX8_spreadFromRunner 4 = .ok (.aload_n 0, 1) := by decide +kernel
theorem dX8_spreadFromRunner_5 : decode cX8_spreadFromRunner 5 = .ok (.getfield 54, 3) := by decide +kernel
theorem dX8_spreadFromRunner_8 : decode cX8_spreadFromRunner 8 = .ok (.aload_n 0, 1) := by decide +kernel
theorem dX8_spreadFromRunner_9 : decode cX8_spreadFromRunner 9 = .ok (.invokevirtual 371, 3) := by decide +kernel
theorem dX8_spreadFromRunner_12 : decode cX8_spreadFromRunner 12 = .ok (.iconst 0, 1) := by decide +kernel
theorem dX8_spreadFromRunner_13 : decode cX8_spreadFromRunner 13 = .ok (.invokevirtual 258, 3) := by decide +kernel
theorem dX8_spreadFromRunner_16 : decode cX8_spreadFromRunner 16 = .ok (.aload_n 0, 1) := by decide +kernel
theorem dX8_spreadFromRunner_17 : decode cX8_spreadFromRunner 17 = .ok (.getfield 61, 3) := by decide +kernel
theorem dX8_spreadFromRunner_20 : decode cX8_spreadFromRunner 20 = .ok (.aload_n 0, 1) := by decide +kernel
theorem dX8_spreadFromRunner_21 : decode cX8_spreadFromRunner 21 = .ok (.getfield 54, 3) := by decide +kernel
theorem dX8_spreadFromRunner_24 : decode cX8_spreadFromRunner 24 = .ok (.aload_n 0, 1) := by decide +kernel
theorem dX8_spreadFromRunner_25 : decode cX8_spreadFromRunner 25 = .ok (.invokevirtual 371, 3) := by decide +kernel
theorem dX8_spreadFromRunner_28 : decode cX8_spreadFromRunner 28 = .ok (.iconst 3, 1) := by decide +kernel
theorem dX8_spreadFromRunner_29 : decode cX8_spreadFromRunner 29 = .ok (.invokevirtual 258, 3) := by decide +kernel
theorem dX8_spreadFromRunner_32 : decode cX8_spreadFromRunner 32 = .ok (.return_, 1) := by decide +kernel
set_option maxRecDepth 20000 in
theorem ggX8_isReached_X5_leapsBySpreading : GoodIn wsX8_isReached wsX5_leapsBySpreading := goodIn_r _ [6, 7, 8, 9, 10, 21, 22, 23, 24, 25] (by decide +kernel) (by decide +kernel)
set_option maxRecDepth 20000 in
theorem gX8_isReached_X5_leapsBySpreading : GoodIn wsX8_isReached (wsV RX8 262 RX5 yX5_leapsBySpreading wsX5_leapsBySpreading) := goodIn_app (goodIn_of _ (by decide +kernel)) ggX8_isReached_X5_leapsBySpreading
theorem dX8_isReached_0 : decode cX8_isReached 0 = .ok (.aload_n 0, 1) := by decide +kernel
theorem dX8_isReached_1 : decode cX8_isReached 1 = .ok (.getfield 61, 3) := by decide +kernel
theorem dX8_isReached_4 : decode cX8_isReached 4 = .ok (.iload_n 1, 1) := by decide +kernel
theorem dX8_isReached_5 : decode cX8_isReached 5 = .ok (.iload_n 2, 1) := by decide +kernel
theorem dX8_isReached_6 : decode cX8_isReached 6 = .ok (.invokevirtual 262, 3) := by decide +kernel
theorem dX8_isReached_9 : decode cX8_isReached 9 = .ok (.iconst (-1), 1) := by decide +kernel
theorem dX8_isReached_10 : decode cX8_isReached 10 = .ok (.if_icmp .eq 7, 3) := by decide +kernel
theorem dX8_isReached_13 : decode cX8_isReached 13 = .ok (.iconst 1, 1) := by decide +kernel
theorem dX8_isReached_14 : decode cX8_isReached 14 = .ok (.goto 4, 3) := by decide +kernel
theorem dX8_isReached_17 : decode cX8_isReached 17 = .ok (.iconst 0, 1) := by decide +kernel
theorem dX8_isReached_18 : decode cX8_isReached 18 = .ok (.ireturn, 1) := by decide +kernel
set_option maxRecDepth 20000 in
theorem ggX8_reachedLedges_X8_isReached : GoodIn wsX8_reachedLedges wsX8_isReached := goodIn_r _ [7, 8, 9, 10, 11, 12, 13, 14, 15, 6, 16, 17, 18, 19, 20, 21, 22, 23, 24, 25, 26, 32, 33, 34, 35, 36] (by decide +kernel) (by decide +kernel)
set_option maxRecDepth 20000 in
theorem gX8_reachedLedges_X8_isReached : GoodIn wsX8_reachedLedges (wsV RX8 397 RX8 yX8_isReached wsX8_isReached) := goodIn_app (goodIn_of _ (by decide +kernel)) ggX8_reachedLedges_X8_isReached
theorem dX8_reachedLedges_0 : decode cX8_reachedLedges 0 = .ok (.iconst 0, 1) := by decide +kernel
theorem dX8_reachedLedges_1 : decode cX8_reachedLedges 1 = .ok (.istore_n 1, 1) := by decide +kernel
theorem dX8_reachedLedges_2 : decode cX8_reachedLedges 2 = .ok (.iconst 0, 1) := by decide +kernel
theorem dX8_reachedLedges_3 : decode cX8_reachedLedges 3 = .ok (.istore_n 2, 1) := by decide +kernel
theorem dX8_reachedLedges_4 : decode cX8_reachedLedges 4 = .ok (.iload_n 2, 1) := by decide +kernel
theorem dX8_reachedLedges_5 : decode cX8_reachedLedges 5 = .ok (.aload_n 0, 1) := by decide +kernel
theorem dX8_reachedLedges_6 : decode cX8_reachedLedges 6 = .ok (.getfield 47, 3) := by decide +kernel
theorem dX8_reachedLedges_9 : decode cX8_reachedLedges 9 = .ok (.getfield 370, 3) := by decide +kernel
theorem dX8_reachedLedges_12 : decode cX8_reachedLedges 12 = .ok (.if_icmp .ge 21, 3) := by decide +kernel
theorem dX8_reachedLedges_15 : decode cX8_reachedLedges 15 = .ok (.aload_n 0, 1) := by decide +kernel
theorem dX8_reachedLedges_16 : decode cX8_reachedLedges 16 = .ok (.iload_n 2, 1) := by decide +kernel
theorem dX8_reachedLedges_17 : decode cX8_reachedLedges 17 = .ok (.iconst 3, 1) := by decide +kernel
theorem dX8_reachedLedges_18 : decode cX8_reachedLedges 18 = .ok (.invokevirtual 397, 3) := by decide +kernel
theorem dX8_reachedLedges_21 : decode cX8_reachedLedges 21 = .ok (.ifCond .eq 6, 3) := by decide +kernel
theorem dX8_reachedLedges_24 : decode cX8_reachedLedges 24 = .ok (.iinc 1 1, 3) := by decide +kernel
theorem dX8_reachedLedges_27 : decode cX8_reachedLedges 27 = .ok (.iinc 2 1, 3) := by decide +kernel
theorem dX8_reachedLedges_30 : decode cX8_reachedLedges 30 = .ok (.goto (-26), 3) := by decide +kernel
theorem dX8_reachedLedges_33 : decode cX8_reachedLedges 33 = .ok (.iload_n 1, 1) := by decide +kernel
theorem dX8_reachedLedges_34 : decode cX8_reachedLedges 34 = .ok (.ireturn, 1) := by decide +kernel
set_option maxRecDepth 20000 in
theorem ggX8_onlyRunningLedge_X8_isReached : GoodIn wsX8_onlyRunningLedge wsX8_isReached := goodIn_r _ [7, 8, 9, 10, 11, 12, 13, 14, 15, 6, 16, 17, 18, 19, 20, 21, 22, 23, 24, 25, 26, 32, 33, 34, 35, 36] (by decide +kernel) (by decide +kernel)
set_option maxRecDepth 20000 in
theorem gX8_onlyRunningLedge_X8_isReached : GoodIn wsX8_onlyRunningLedge (wsV RX8 397 RX8 yX8_isReached wsX8_isReached) := goodIn_app (goodIn_of _ (by decide +kernel)) ggX8_onlyRunningLedge_X8_isReached
theorem dX8_onlyRunningLedge_0 : decode cX8_onlyRunningLedge 0 = .ok (.iconst 0, 1) := by decide +kernel
theorem dX8_onlyRunningLedge_1 : decode cX8_onlyRunningLedge 1 = .ok (.istore_n 2, 1) := by decide +kernel
theorem dX8_onlyRunningLedge_2 : decode cX8_onlyRunningLedge 2 = .ok (.iconst 0, 1) := by decide +kernel
theorem dX8_onlyRunningLedge_3 : decode cX8_onlyRunningLedge 3 = .ok (.istore_n 3, 1) := by decide +kernel
theorem dX8_onlyRunningLedge_4 : decode cX8_onlyRunningLedge 4 = .ok (.iload_n 3, 1) := by decide +kernel
theorem dX8_onlyRunningLedge_5 : decode cX8_onlyRunningLedge 5 = .ok (.aload_n 0, 1) := by decide +kernel
theorem dX8_onlyRunningLedge_6 : decode cX8_onlyRunningLedge 6 = .ok (.getfield 47, 3) := by decide +kernel
theorem dX8_onlyRunningLedge_9 : decode cX8_onlyRunningLedge 9 = .ok (.getfield 370, 3) := by decide +kernel
theorem dX8_onlyRunningLedge_12 : decode cX8_onlyRunningLedge 12 = .ok (.if_icmp .ge 37, 3) := by decide +kernel
theorem dX8_onlyRunningLedge_15 : decode cX8_onlyRunningLedge 15 = .ok (.aload_n 0, 1) := by decide +kernel
theorem dX8_onlyRunningLedge_16 : decode cX8_onlyRunningLedge 16 = .ok (.iload_n 3, 1) := by decide +kernel
theorem dX8_onlyRunningLedge_17 : decode cX8_onlyRunningLedge 17 = .ok (.iconst 3, 1) := by decide +kernel
theorem dX8_onlyRunningLedge_18 : decode cX8_onlyRunningLedge 18 = .ok (.invokevirtual 397, 3) := by decide +kernel
theorem dX8_onlyRunningLedge_21 : decode cX8_onlyRunningLedge 21 = .ok (.ifCond .eq 22, 3) := by decide +kernel
theorem dX8_onlyRunningLedge_24 : decode cX8_onlyRunningLedge 24 = .ok (.aload_n 0, 1) := by decide +kernel
theorem dX8_onlyRunningLedge_25 : decode cX8_onlyRunningLedge 25 = .ok (.iload_n 3, 1) := by decide +kernel
theorem dX8_onlyRunningLedge_26 : decode cX8_onlyRunningLedge 26 = .ok (.iconst 0, 1) := by decide +kernel
theorem dX8_onlyRunningLedge_27 : decode cX8_onlyRunningLedge 27 = .ok (.invokevirtual 397, 3) := by decide +kernel
theorem dX8_onlyRunningLedge_30 : decode cX8_onlyRunningLedge 30 = .ok (.ifCond .ne 13, 3) := by decide +kernel
theorem dX8_onlyRunningLedge_33 : decode cX8_onlyRunningLedge 33 = .ok (.iload_n 2, 1) := by decide +kernel
theorem dX8_onlyRunningLedge_34 : decode cX8_onlyRunningLedge 34 = .ok (.iload_n 1, 1) := by decide +kernel
theorem dX8_onlyRunningLedge_35 : decode cX8_onlyRunningLedge 35 = .ok (.if_icmp .ne 5, 3) := by decide +kernel
theorem dX8_onlyRunningLedge_38 : decode cX8_onlyRunningLedge 38 = .ok (.iload_n 3, 1) := by decide +kernel
theorem dX8_onlyRunningLedge_39 : decode cX8_onlyRunningLedge 39 = .ok (.ireturn, 1) := by decide +kernel
theorem dX8_onlyRunningLedge_40 : decode cX8_onlyRunningLedge 40 = .ok (.iinc 2 1, 3) := by decide +kernel
theorem dX8_onlyRunningLedge_43 : decode cX8_onlyRunningLedge 43 = .ok (.iinc 3 1, 3) := by decide +kernel
theorem dX8_onlyRunningLedge_46 : decode cX8_onlyRunningLedge 46 = .ok (.goto (-42), 3) := by decide +kernel
theorem dX8_onlyRunningLedge_49 : decode cX8_onlyRunningLedge 49 = .ok (.iconst (-1), 1) := by decide +kernel
theorem dX8_onlyRunningLedge_50 : decode cX8_onlyRunningLedge 50 = .ok (.ireturn, 1) := by decide +kernel
set_option maxRecDepth 20000 in
theorem ggX8_shareOfReached_X8_reachedLedges : GoodIn wsX8_shareOfReached wsX8_reachedLedges := goodIn_r _ [7, 1, 2, 8, 9, 10, 6, 11, 12, 13, 14, 15, 16, 17, 18, 19, 20, 21, 22, 23, 24, 25, 26, 27, 28, 29, 30, 31, 32, 33, 34, 35, 36, 37, 38, 39, 40] (by decide +kernel) (by decide +kernel)
set_option maxRecDepth 20000 in
theorem gX8_shareOfReached_X8_reachedLedges : GoodIn wsX8_shareOfReached (wsV RX8 374 RX8 yX8_reachedLedges wsX8_reachedLedges) := goodIn_app (goodIn_of _ (by decide +kernel)) ggX8_shareOfReached_X8_reachedLedges
theorem dX8_shareOfReached_0 : decode cX8_shareOfReached 0 = .ok (.aload_n 0, 1) := by decide +kernel
theorem dX8_shareOfReached_1 : decode cX8_shareOfReached 1 = .ok (.getfield 47, 3) := by decide +kernel
theorem dX8_shareOfReached_4 : decode cX8_shareOfReached 4 = .ok (.getfield 370, 3) := by decide +kernel
theorem dX8_shareOfReached_7 : decode cX8_shareOfReached 7 = .ok (.ifCond .gt 5, 3) := by decide +kernel
theorem dX8_shareOfReached_10 : decode cX8_shareOfReached 10 = .ok (.dconst 0, 1) := by decide +kernel
theorem dX8_shareOfReached_11 : decode cX8_shareOfReached 11 = .ok (.dreturn, 1) := by decide +kernel
theorem dX8_shareOfReached_12 : decode cX8_shareOfReached 12 = .ok (.aload_n 0, 1) := by decide +kernel
theorem dX8_shareOfReached_13 : decode cX8_shareOfReached 13 = .ok (.invokevirtual 374, 3) := by decide +kernel
theorem dX8_shareOfReached_16 : decode cX8_shareOfReached 16 = .ok (.i2d, 1) := by decide +kernel
theorem dX8_shareOfReached_17 : decode cX8_shareOfReached 17 = .ok (.aload_n 0, 1) := by decide +kernel
theorem dX8_shareOfReached_18 : decode cX8_shareOfReached 18 = .ok (.getfield 47, 3) := by decide +kernel
theorem dX8_shareOfReached_21 : decode cX8_shareOfReached 21 = .ok (.getfield 370, 3) := by decide +kernel
theorem dX8_shareOfReached_24 : decode cX8_shareOfReached 24 = .ok (.i2d, 1) := by decide +kernel
theorem dX8_shareOfReached_25 : decode cX8_shareOfReached 25 = .ok (.ddiv, 1) := by decide +kernel
theorem dX8_shareOfReached_26 : decode cX8_shareOfReached 26 = .ok (.dreturn, 1) := by decide +kernel
theorem dJ6_bitCount_0f7a4_0 : decode cJ6_bitCount_0f7a4 0 = .ok (.iload_n 0, 1) := by decide +kernel
theorem dJ6_bitCount_0f7a4_1 : decode cJ6_bitCount_0f7a4 1 = .ok (.iload_n 0, 1) := by decide +kernel
theorem dJ6_bitCount_0f7a4_2 : decode cJ6_bitCount_0f7a4 2 = .ok (.iconst 1, 1) := by decide +kernel
theorem dJ6_bitCount_0f7a4_3 : decode cJ6_bitCount_0f7a4 3 = .ok (.iushr, 1) := by decide +kernel
theorem dJ6_bitCount_0f7a4_4 : decode cJ6_bitCount_0f7a4 4 = .ok (.ldc_w 265, 3) := by decide +kernel
theorem dJ6_bitCount_0f7a4_7 : decode cJ6_bitCount_0f7a4 7 = .ok (.iand, 1) := by decide +kernel
theorem dJ6_bitCount_0f7a4_8 : decode cJ6_bitCount_0f7a4 8 = .ok (.isub, 1) := by decide +kernel
theorem dJ6_bitCount_0f7a4_9 : decode cJ6_bitCount_0f7a4 9 = .ok (.istore_n 0, 1) := by decide +kernel
theorem dJ6_bitCount_0f7a4_10 : decode cJ6_bitCount_0f7a4 10 = .ok (.iload_n 0, 1) := by decide +kernel
theorem dJ6_bitCount_0f7a4_11 : decode cJ6_bitCount_0f7a4 11 = .ok (.ldc_w 266, 3) := by decide +kernel
theorem dJ6_bitCount_0f7a4_14 : decode cJ6_bitCount_0f7a4 14 = .ok (.iand, 1) := by decide +kernel
theorem dJ6_bitCount_0f7a4_15 : decode cJ6_bitCount_0f7a4 15 = .ok (.iload_n 0, 1) := by decide +kernel
theorem dJ6_bitCount_0f7a4_16 : decode cJ6_bitCount_0f7a4 16 = .ok (.iconst 2, 1) := by decide +kernel
theorem dJ6_bitCount_0f7a4_17 : decode cJ6_bitCount_0f7a4 17 = .ok (.iushr, 1) := by decide +kernel
theorem dJ6_bitCount_0f7a4_18 : decode cJ6_bitCount_0f7a4 18 = .ok (.ldc_w 266, 3) := by decide +kernel
theorem dJ6_bitCount_0f7a4_21 : decode cJ6_bitCount_0f7a4 21 = .ok (.iand, 1) := by decide +kernel
theorem dJ6_bitCount_0f7a4_22 : decode cJ6_bitCount_0f7a4 22 = .ok (.iadd, 1) := by decide +kernel
theorem dJ6_bitCount_0f7a4_23 : decode cJ6_bitCount_0f7a4 23 = .ok (.istore_n 0, 1) := by decide +kernel
theorem dJ6_bitCount_0f7a4_24 : decode cJ6_bitCount_0f7a4 24 = .ok (.iload_n 0, 1) := by decide +kernel
theorem dJ6_bitCount_0f7a4_25 : decode cJ6_bitCount_0f7a4 25 = .ok (.iload_n 0, 1) := by decide +kernel
theorem dJ6_bitCount_0f7a4_26 : decode cJ6_bitCount_0f7a4 26 = .ok (.iconst 4, 1) := by decide +kernel
theorem dJ6_bitCount_0f7a4_27 : decode cJ6_bitCount_0f7a4 27 = .ok (.iushr, 1) := by decide +kernel
theorem dJ6_bitCount_0f7a4_28 : decode cJ6_bitCount_0f7a4 28 = .ok (.iadd, 1) := by decide +kernel
theorem dJ6_bitCount_0f7a4_29 : decode cJ6_bitCount_0f7a4 29 = .ok (.ldc_w 267, 3) := by decide +kernel
theorem dJ6_bitCount_0f7a4_32 : decode cJ6_bitCount_0f7a4 32 = .ok (.iand, 1) := by decide +kernel
theorem dJ6_bitCount_0f7a4_33 : decode cJ6_bitCount_0f7a4 33 = .ok (.istore_n 0, 1) := by decide +kernel
theorem dJ6_bitCount_0f7a4_34 : decode cJ6_bitCount_0f7a4 34 = .ok (.iload_n 0, 1) := by decide +kernel
theorem dJ6_bitCount_0f7a4_35 : decode cJ6_bitCount_0f7a4 35 = .ok (.iload_n 0, 1) := by decide +kernel
theorem dJ6_bitCount_0f7a4_36 : decode cJ6_bitCount_0f7a4 36 = .ok (.bipush 8, 2) := by decide +kernel
theorem dJ6_bitCount_0f7a4_38 : decode cJ6_bitCount_0f7a4 38 = .ok (.iushr, 1) := by decide +kernel
theorem dJ6_bitCount_0f7a4_39 : decode cJ6_bitCount_0f7a4 39 = .ok (.iadd, 1) := by decide +kernel
theorem dJ6_bitCount_0f7a4_40 : decode cJ6_bitCount_0f7a4 40 = .ok (.istore_n 0, 1) := by decide +kernel
theorem dJ6_bitCount_0f7a4_41 : decode cJ6_bitCount_0f7a4 41 = .ok (.iload_n 0, 1) := by decide +kernel
theorem dJ6_bitCount_0f7a4_42 : decode cJ6_bitCount_0f7a4 42 = .ok (.iload_n 0, 1) := by decide +kernel
theorem dJ6_bitCount_0f7a4_43 : decode cJ6_bitCount_0f7a4 43 = .ok (.bipush 16, 2) := by decide +kernel
theorem dJ6_bitCount_0f7a4_45 : decode cJ6_bitCount_0f7a4 45 = .ok (.iushr, 1) := by decide +kernel
theorem dJ6_bitCount_0f7a4_46 : decode cJ6_bitCount_0f7a4 46 = .ok (.iadd, 1) := by decide +kernel
theorem dJ6_bitCount_0f7a4_47 : decode cJ6_bitCount_0f7a4 47 = .ok (.istore_n 0, 1) := by decide +kernel
theorem dJ6_bitCount_0f7a4_48 : decode cJ6_bitCount_0f7a4 48 = .ok (.iload_n 0, 1) := by decide +kernel
theorem dJ6_bitCount_0f7a4_49 : decode cJ6_bitCount_0f7a4 49 = .ok (.bipush 63, 2) := by decide +kernel
theorem dJ6_bitCount_0f7a4_51 : decode cJ6_bitCount_0f7a4 51 = .ok (.iand, 1) := by decide +kernel
theorem dJ6_bitCount_0f7a4_52 : decode cJ6_bitCount_0f7a4 52 = .ok (.ireturn, 1) := by decide +kernel
theorem dJ9_max_7cf53_0 : decode cJ9_max_7cf53 0 = .ok (.iload_n 0, 1) := by decide +kernel
theorem dJ9_max_7cf53_1 : decode cJ9_max_7cf53 1 = .ok (.iload_n 1, 1) := by decide +kernel
theorem dJ9_max_7cf53_2 : decode cJ9_max_7cf53 2 = .ok (.if_icmp .lt 7, 3) := by decide +kernel
theorem dJ9_max_7cf53_5 : decode cJ9_max_7cf53 5 = .ok (.iload_n 0, 1) := by decide +kernel
theorem dJ9_max_7cf53_6 : decode cJ9_max_7cf53 6 = .ok (.goto 4, 3) := by decide +kernel
theorem dJ9_max_7cf53_9 : decode cJ9_max_7cf53 9 = .ok (.iload_n 1, 1) := by decide +kernel
theorem dJ9_max_7cf53_10 : decode cJ9_max_7cf53 10 = .ok (.ireturn, 1) := by decide +kernel
theorem dJ9_min_7cf53_0 : decode cJ9_min_7cf53 0 = .ok (.iload_n 0, 1) := by decide +kernel
theorem dJ9_min_7cf53_1 : decode cJ9_min_7cf53 1 = .ok (.iload_n 1, 1) := by decide +kernel
theorem dJ9_min_7cf53_2 : decode cJ9_min_7cf53 2 = .ok (.if_icmp .gt 7, 3) := by decide +kernel
theorem dJ9_min_7cf53_5 : decode cJ9_min_7cf53 5 = .ok (.iload_n 0, 1) := by decide +kernel
theorem dJ9_min_7cf53_6 : decode cJ9_min_7cf53 6 = .ok (.goto 4, 3) := by decide +kernel
theorem dJ9_min_7cf53_9 : decode cJ9_min_7cf53 9 = .ok (.iload_n 1, 1) := by decide +kernel
theorem dJ9_min_7cf53_10 : decode cJ9_min_7cf53 10 = .ok (.ireturn, 1) := by decide +kernel
theorem dJ7_fill_53178_0 : decode cJ7_fill_53178 0 = .ok (.iconst 0, 1) := by decide +kernel
theorem dJ7_fill_53178_1 : decode cJ7_fill_53178 1 = .ok (.istore_n 2, 1) := by decide +kernel
theorem dJ7_fill_53178_2 : decode cJ7_fill_53178 2 = .ok (.aload_n 0, 1) := by decide +kernel
theorem dJ7_fill_53178_3 : decode cJ7_fill_53178 3 = .ok (.arraylength, 1) := by decide +kernel
theorem dJ7_fill_53178_4 : decode cJ7_fill_53178 4 = .ok (.istore_n 3, 1) := by decide +kernel
theorem dJ7_fill_53178_5 : decode cJ7_fill_53178 5 = .ok (.iload_n 2, 1) := by decide +kernel
theorem dJ7_fill_53178_6 : decode cJ7_fill_53178 6 = .ok (.iload_n 3, 1) := by decide +kernel
theorem dJ7_fill_53178_7 : decode cJ7_fill_53178 7 = .ok (.if_icmp .ge 13, 3) := by decide +kernel
theorem dJ7_fill_53178_10 : decode cJ7_fill_53178 10 = .ok (.aload_n 0, 1) := by decide +kernel
theorem dJ7_fill_53178_11 : decode cJ7_fill_53178 11 = .ok (.iload_n 2, 1) := by decide +kernel
theorem dJ7_fill_53178_12 : decode cJ7_fill_53178 12 = .ok (.iload_n 1, 1) := by decide +kernel
theorem dJ7_fill_53178_13 : decode cJ7_fill_53178 13 = .ok (.iastore, 1) := by decide +kernel
theorem dJ7_fill_53178_14 : decode cJ7_fill_53178 14 = .ok (.iinc 2 1, 3) := by decide +kernel
theorem dJ7_fill_53178_17 : decode cJ7_fill_53178 17 = .ok (.goto (-12), 3) := by decide +kernel
theorem dJ7_fill_53178_20 : decode cJ7_fill_53178 20 = .ok (.return_, 1) := by decide +kernel
