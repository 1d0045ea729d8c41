theorem dX0_init_0 : decode cX0_init 0 = .ok (.aload_n 0, 1) := by decide +kernel
theorem dX0_init_1 : decode cX0_init 1 = .ok (.invokespecial 3, 3) := by decide +kernel
theorem dX0_init_4 : decode cX0_init 4 = .ok (.return_, 1) := by decide +kernel
set_option maxRecDepth 20000 in
theorem ggX0_fly_X8_at : GoodIn wsX0_fly wsX8_at := goodIn_r _ [15] (by decide +kernel) (by decide +kernel)
set_option maxRecDepth 20000 in
theorem gX0_fly_X8_at_n34 : GoodIn wsX0_fly (wsX8_at) := ggX0_fly_X8_at
set_option maxRecDepth 20000 in
theorem ggX0_fly_X0_stepAside : GoodIn wsX0_fly wsX0_stepAside := goodIn_r _ [20, 5, 1, 2, 4, 21, 22, 23, 24, 25, 26, 38, 39, 40, 41, 42, 43, 44, 45, 46, 47, 48, 49, 50, 51] (by decide +kernel) (by decide +kernel)
set_option maxRecDepth 20000 in
theorem gX0_fly_X0_stepAside : GoodIn wsX0_fly (wsV RX0 44 RX0 yX0_stepAside wsX0_stepAside) := goodIn_app (goodIn_of _ (by decide +kernel)) ggX0_fly_X0_stepAside
set_option maxRecDepth 20000 in
theorem ggX0_fly_X0_stepUp : GoodIn wsX0_fly wsX0_stepUp := goodIn_r _ [30, 7, 1, 2, 21, 22, 23, 24, 25, 26, 38, 39, 40, 41, 42, 43, 44, 45, 46, 47, 48, 49, 50, 51] (by decide +kernel) (by decide +kernel)
set_option maxRecDepth 20000 in
theorem gX0_fly_X0_stepUp : GoodIn wsX0_fly (wsV RX0 48 RX0 yX0_stepUp wsX0_stepUp) := goodIn_app (goodIn_of _ (by decide +kernel)) ggX0_fly_X0_stepUp
set_option maxRecDepth 20000 in
theorem ggX0_fly_X0_endsSteppingDown : GoodIn wsX0_fly wsX0_endsSteppingDown := goodIn_r _ [34, 4, 7, 6, 35, 36, 11, 37, 1, 2, 13, 14, 15, 21, 22, 23, 24, 25, 26, 38, 39, 40, 41, 42, 43, 44, 45, 46, 47, 48, 49, 50, 51] (by decide +kernel) (by decide +kernel)
set_option maxRecDepth 20000 in
theorem gX0_fly_X0_endsSteppingDown : GoodIn wsX0_fly (wsV RX0 52 RX0 yX0_endsSteppingDown wsX0_endsSteppingDown) := goodIn_app (goodIn_of _ (by decide +kernel)) ggX0_fly_X0_endsSteppingDown
theorem dX0_fly_0 : decode cX0_fly 0 = .ok (.aload_n 0, 1) := by decide +kernel
theorem dX0_fly_1 : decode cX0_fly 1 = .ok (.iload_n 2, 1) := by decide +kernel
theorem dX0_fly_2 : decode cX0_fly 2 = .ok (.putfield 9, 3) := by decide +kernel
theorem dX0_fly_5 : decode cX0_fly 5 = .ok (.aload_n 0, 1) := by decide +kernel
theorem dX0_fly_6 : decode cX0_fly 6 = .ok (.iload_n 3, 1) := by decide +kernel
theorem dX0_fly_7 : decode cX0_fly 7 = .ok (.putfield 15, 3) := by decide +kernel
theorem dX0_fly_10 : decode cX0_fly 10 = .ok (.aload_n 0, 1) := by decide +kernel
theorem dX0_fly_11 : decode cX0_fly 11 = .ok (.iload_n 3, 1) := by decide +kernel
theorem dX0_fly_12 : decode cX0_fly 12 = .ok (.putfield 18, 3) := by decide +kernel
theorem dX0_fly_15 : decode cX0_fly 15 = .ok (.aload_n 0, 1) := by decide +kernel
theorem dX0_fly_16 : decode cX0_fly 16 = .ok (.iconst 0, 1) := by decide +kernel
theorem dX0_fly_17 : decode cX0_fly 17 = .ok (.putfield 21, 3) := by decide +kernel
theorem dX0_fly_20 : decode cX0_fly 20 = .ok (.aload_n 0, 1) := by decide +kernel
theorem dX0_fly_21 : decode cX0_fly 21 = .ok (.iload 5, 2) := by decide +kernel
theorem dX0_fly_23 : decode cX0_fly 23 = .ok (.iconst 1, 1) := by decide +kernel
theorem dX0_fly_24 : decode cX0_fly 24 = .ok (.iadd, 1) := by decide +kernel
theorem dX0_fly_25 : decode cX0_fly 25 = .ok (.putfield 25, 3) := by decide +kernel
theorem dX0_fly_28 : decode cX0_fly 28 = .ok (.aload_n 0, 1) := by decide +kernel
theorem dX0_fly_29 : decode cX0_fly 29 = .ok (.aload_n 1, 1) := by decide +kernel
theorem dX0_fly_30 : decode cX0_fly 30 = .ok (.getfield 28, 3) := by decide +kernel
theorem dX0_fly_33 : decode cX0_fly 33 = .ok (.iconst 0, 1) := by decide +kernel
theorem dX0_fly_34 : decode cX0_fly 34 = .ok (.invokestatic 34, 3) := by decide +kernel
theorem dX0_fly_37 : decode cX0_fly 37 = .ok (.putfield 38, 3) := by decide +kernel
theorem dX0_fly_40 : decode cX0_fly 40 = .ok (.aload_n 0, 1) := by decide +kernel
theorem dX0_fly_41 : decode cX0_fly 41 = .ok (.iconst 0, 1) := by decide +kernel
theorem dX0_fly_42 : decode cX0_fly 42 = .ok (.putfield 41, 3) := by decide +kernel
theorem dX0_fly_45 : decode cX0_fly 45 = .ok (.iconst 0, 1) := by decide +kernel
theorem dX0_fly_46 : decode cX0_fly 46 = .ok (.istore 6, 2) := by decide +kernel
theorem dX0_fly_48 : decode cX0_fly 48 = .ok (.aload_n 0, 1) := by decide +kernel
theorem dX0_fly_49 : decode cX0_fly 49 = .ok (.getfield 41, 3) := by decide +kernel
theorem dX0_fly_52 : decode cX0_fly 52 = .ok (.bipush 100, 2) := by decide +kernel
theorem dX0_fly_54 : decode cX0_fly 54 = .ok (.if_icmp .ge 87, 3) := by decide +kernel
theorem dX0_fly_57 : decode cX0_fly 57 = .ok (.iload 6, 2) := by decide +kernel
theorem dX0_fly_59 : decode cX0_fly 59 = .ok (.ifCond .ne 82, 3) := by decide +kernel
theorem dX0_fly_62 : decode cX0_fly 62 = .ok (.aload_n 0, 1) := by decide +kernel
theorem dX0_fly_63 : decode cX0_fly 63 = .ok (.dup, 1) := by decide +kernel
theorem dX0_fly_64 : decode cX0_fly 64 = .ok (.getfield 41, 3) := by decide +kernel
theorem dX0_fly_67 : decode cX0_fly 67 = .ok (.iconst 1, 1) := by decide +kernel
theorem dX0_fly_68 : decode cX0_fly 68 = .ok (.iadd, 1) := by decide +kernel
theorem dX0_fly_69 : decode cX0_fly 69 = .ok (.putfield 41, 3) := by decide +kernel
theorem dX0_fly_72 : decode cX0_fly 72 = .ok (.aload_n 0, 1) := by decide +kernel
theorem dX0_fly_73 : decode cX0_fly 73 = .ok (.aload_n 1, 1) := by decide +kernel
theorem dX0_fly_74 : decode cX0_fly 74 = .ok (.iload 4, 2) := by decide +kernel
theorem dX0_fly_76 : decode cX0_fly 76 = .ok (.invokevirtual 44, 3) := by decide +kernel
theorem dX0_fly_79 : decode cX0_fly 79 = .ok (.aload_n 0, 1) := by decide +kernel
theorem dX0_fly_80 : decode cX0_fly 80 = .ok (.getfield 38, 3) := by decide +kernel
theorem dX0_fly_83 : decode cX0_fly 83 = .ok (.ifCond .le 11, 3) := by decide +kernel
theorem dX0_fly_86 : decode cX0_fly 86 = .ok (.aload_n 0, 1) := by decide +kernel
theorem dX0_fly_87 : decode cX0_fly 87 = .ok (.aload_n 1, 1) := by decide +kernel
theorem dX0_fly_88 : decode cX0_fly 88 = .ok (.invokevirtual 48, 3) := by decide +kernel
theorem dX0_fly_91 : decode cX0_fly 91 = .ok (.goto 10, 3) := by decide +kernel
theorem dX0_fly_94 : decode cX0_fly 94 = .ok (.aload_n 0, 1) := by decide +kernel
theorem dX0_fly_95 : decode cX0_fly 95 = .ok (.aload_n 1, 1) := by decide +kernel
theorem dX0_fly_96 : decode cX0_fly 96 = .ok (.invokevirtual 52, 3) := by decide +kernel
theorem dX0_fly_99 : decode cX0_fly 99 = .ok (.istore 6, 2) := by decide +kernel
theorem dX0_fly_101 : decode cX0_fly 101 = .ok (.aload_n 0, 1) := by decide +kernel
theorem dX0_fly_102 : decode cX0_fly 102 = .ok (.aload_n 0, 1) := by decide +kernel
theorem dX0_fly_103 : decode cX0_fly 103 = .ok (.getfield 18, 3) := by decide +kernel
theorem dX0_fly_106 : decode cX0_fly 106 = .ok (.aload_n 0, 1) := by decide +kernel
theorem dX0_fly_107 : decode cX0_fly 107 = .ok (.getfield 15, 3) := by decide +kernel
theorem dX0_fly_110 : decode cX0_fly 110 = .ok (.invokestatic 56, 3) := by decide +kernel
theorem dX0_fly_113 : decode cX0_fly 113 = .ok (.putfield 18, 3) := by decide +kernel
theorem dX0_fly_116 : decode cX0_fly 116 = .ok (.aload_n 0, 1) := by decide +kernel
theorem dX0_fly_117 : decode cX0_fly 117 = .ok (.aload_n 0, 1) := by decide +kernel
theorem dX0_fly_118 : decode cX0_fly 118 = .ok (.getfield 38, 3) := by decide +kernel
theorem dX0_fly_121 : decode cX0_fly 121 = .ok (.iconst 1, 1) := by decide +kernel
theorem dX0_fly_122 : decode cX0_fly 122 = .ok (.isub, 1) := by decide +kernel
theorem dX0_fly_123 : decode cX0_fly 123 = .ok (.aload_n 1, 1) := by decide +kernel
theorem dX0_fly_124 : decode cX0_fly 124 = .ok (.getfield 28, 3) := by decide +kernel
theorem dX0_fly_127 : decode cX0_fly 127 = .ok (.iconst 1, 1) := by decide +kernel
theorem dX0_fly_128 : decode cX0_fly 128 = .ok (.invokestatic 34, 3) := by decide +kernel
theorem dX0_fly_131 : decode cX0_fly 131 = .ok (.ineg, 1) := by decide +kernel
theorem dX0_fly_132 : decode cX0_fly 132 = .ok (.invokestatic 56, 3) := by decide +kernel
theorem dX0_fly_135 : decode cX0_fly 135 = .ok (.putfield 38, 3) := by decide +kernel
theorem dX0_fly_138 : decode cX0_fly 138 = .ok (.goto (-90), 3) := by decide +kernel
theorem dX0_fly_141 : decode cX0_fly 141 = .ok (.return_, 1) := by decide +kernel
set_option maxRecDepth 20000 in
theorem ggX0_stepAside_X7_isBlock : GoodIn wsX0_stepAside wsX7_isBlock := goodIn_r _ [9, 10, 18, 19, 20, 21, 22, 23, 24] (by decide +kernel) (by decide +kernel)
set_option maxRecDepth 20000 in
theorem gX0_stepAside_X7_isBlock : GoodIn wsX0_stepAside (wsV RX0 62 RX7 yX7_isBlock wsX7_isBlock) := goodIn_app (goodIn_of _ (by decide +kernel)) ggX0_stepAside_X7_isBlock
theorem dX0_stepAside_0 : decode cX0_stepAside 0 = .ok (.iconst 0, 1) := by decide +kernel
theorem dX0_stepAside_1 : decode cX0_stepAside 1 = .ok (.istore_n 3, 1) := by decide +kernel
theorem dX0_stepAside_2 : decode cX0_stepAside 2 = .ok (.iload_n 3, 1) := by decide +kernel
theorem dX0_stepAside_3 : decode cX0_stepAside 3 = .ok (.aload_n 0, 1) := by decide +kernel
theorem dX0_stepAside_4 : decode cX0_stepAside 4 = .ok (.getfield 25, 3) := by decide +kernel
theorem dX0_stepAside_7 : decode cX0_stepAside 7 = .ok (.if_icmp .ge 47, 3) := by decide +kernel
theorem dX0_stepAside_10 : decode cX0_stepAside 10 = .ok (.aload_n 1, 1) := by decide +kernel
theorem dX0_stepAside_11 : decode cX0_stepAside 11 = .ok (.aload_n 0, 1) := by decide +kernel
theorem dX0_stepAside_12 : decode cX0_stepAside 12 = .ok (.getfield 9, 3) := by decide +kernel
theorem dX0_stepAside_15 : decode cX0_stepAside 15 = .ok (.iload_n 2, 1) := by decide +kernel
theorem dX0_stepAside_16 : decode cX0_stepAside 16 = .ok (.iadd, 1) := by decide +kernel
theorem dX0_stepAside_17 : decode cX0_stepAside 17 = .ok (.aload_n 0, 1) := by decide +kernel
theorem dX0_stepAside_18 : decode cX0_stepAside 18 = .ok (.getfield 15, 3) := by decide +kernel
theorem dX0_stepAside_21 : decode cX0_stepAside 21 = .ok (.invokevirtual 62, 3) := by decide +kernel
theorem dX0_stepAside_24 : decode cX0_stepAside 24 = .ok (.ifCond .eq 14, 3) := by decide +kernel
theorem dX0_stepAside_27 : decode cX0_stepAside 27 = .ok (.aload_n 0, 1) := by decide +kernel
theorem dX0_stepAside_28 : decode cX0_stepAside 28 = .ok (.iconst 0, 1) := by decide +kernel
theorem dX0_stepAside_29 : decode cX0_stepAside 29 = .ok (.putfield 25, 3) := by decide +kernel
theorem dX0_stepAside_32 : decode cX0_stepAside 32 = .ok (.aload_n 0, 1) := by decide +kernel
theorem dX0_stepAside_33 : decode cX0_stepAside 33 = .ok (.iconst 1, 1) := by decide +kernel
theorem dX0_stepAside_34 : decode cX0_stepAside 34 = .ok (.putfield 21, 3) := by decide +kernel
theorem dX0_stepAside_37 : decode cX0_stepAside 37 = .ok (.return_, 1) := by decide +kernel
theorem dX0_stepAside_38 : decode cX0_stepAside 38 = .ok (.aload_n 0, 1) := by decide +kernel
theorem dX0_stepAside_39 : decode cX0_stepAside 39 = .ok (.dup, 1) := by decide +kernel
theorem dX0_stepAside_40 : decode cX0_stepAside 40 = .ok (.getfield 9, 3) := by decide +kernel
theorem dX0_stepAside_43 : decode cX0_stepAside 43 = .ok (.iload_n 2, 1) := by decide +kernel
theorem dX0_stepAside_44 : decode cX0_stepAside 44 = .ok (.iadd, 1) := by decide +kernel
theorem dX0_stepAside_45 : decode cX0_stepAside 45 = .ok (.putfield 9, 3) := by decide +kernel
theorem dX0_stepAside_48 : decode cX0_stepAside 48 = .ok (.iinc 3 1, 3) := by decide +kernel
theorem dX0_stepAside_51 : decode cX0_stepAside 51 = .ok (.goto (-49), 3) := by decide +kernel
theorem dX0_stepAside_54 : decode cX0_stepAside 54 = .ok (.return_, 1) := by decide +kernel
set_option maxRecDepth 20000 in
theorem ggX0_stepUp_X7_isBlock : GoodIn wsX0_stepUp wsX7_isBlock := goodIn_r _ [8, 9, 17, 18, 19, 20, 21, 22, 23] (by decide +kernel) (by decide +kernel)
set_option maxRecDepth 20000 in
theorem gX0_stepUp_X7_isBlock : GoodIn wsX0_stepUp (wsV RX0 62 RX7 yX7_isBlock wsX7_isBlock) := goodIn_app (goodIn_of _ (by decide +kernel)) ggX0_stepUp_X7_isBlock
theorem dX0_stepUp_0 : decode cX0_stepUp 0 = .ok (.iconst 0, 1) := by decide +kernel
theorem dX0_stepUp_1 : decode cX0_stepUp 1 = .ok (.istore_n 2, 1) := by decide +kernel
theorem dX0_stepUp_2 : decode cX0_stepUp 2 = .ok (.iload_n 2, 1) := by decide +kernel
theorem dX0_stepUp_3 : decode cX0_stepUp 3 = .ok (.aload_n 0, 1) := by decide +kernel
theorem dX0_stepUp_4 : decode cX0_stepUp 4 = .ok (.getfield 38, 3) := by decide +kernel
theorem dX0_stepUp_7 : decode cX0_stepUp 7 = .ok (.if_icmp .ge 42, 3) := by decide +kernel
theorem dX0_stepUp_10 : decode cX0_stepUp 10 = .ok (.aload_n 1, 1) := by decide +kernel
theorem dX0_stepUp_11 : decode cX0_stepUp 11 = .ok (.aload_n 0, 1) := by decide +kernel
theorem dX0_stepUp_12 : decode cX0_stepUp 12 = .ok (.getfield 9, 3) := by decide +kernel
theorem dX0_stepUp_15 : decode cX0_stepUp 15 = .ok (.aload_n 0, 1) := by decide +kernel
theorem dX0_stepUp_16 : decode cX0_stepUp 16 = .ok (.getfield 15, 3) := by decide +kernel
theorem dX0_stepUp_19 : decode cX0_stepUp 19 = .ok (.iconst 1, 1) := by decide +kernel
theorem dX0_stepUp_20 : decode cX0_stepUp 20 = .ok (.iadd, 1) := by decide +kernel
theorem dX0_stepUp_21 : decode cX0_stepUp 21 = .ok (.invokevirtual 62, 3) := by decide +kernel
theorem dX0_stepUp_24 : decode cX0_stepUp 24 = .ok (.ifCond .eq 9, 3) := by decide +kernel
theorem dX0_stepUp_27 : decode cX0_stepUp 27 = .ok (.aload_n 0, 1) := by decide +kernel
theorem dX0_stepUp_28 : decode cX0_stepUp 28 = .ok (.iconst 0, 1) := by decide +kernel
theorem dX0_stepUp_29 : decode cX0_stepUp 29 = .ok (.putfield 38, 3) := by decide +kernel
theorem dX0_stepUp_32 : decode cX0_stepUp 32 = .ok (.return_, 1) := by decide +kernel
theorem dX0_stepUp_33 : decode cX0_stepUp 33 = .ok (.aload_n 0, 1) := by decide +kernel
theorem dX0_stepUp_34 : decode cX0_stepUp 34 = .ok (.dup, 1) := by decide +kernel
theorem dX0_stepUp_35 : decode cX0_stepUp 35 = .ok (.getfield 15, 3) := by decide +kernel
theorem dX0_stepUp_38 : decode cX0_stepUp 38 = .ok (.iconst 1, 1) := by decide +kernel
theorem dX0_stepUp_39 : decode cX0_stepUp 39 = .ok (.iadd, 1) := by decide +kernel
theorem dX0_stepUp_40 : decode cX0_stepUp 40 = .ok (.putfield 15, 3) := by decide +kernel
theorem dX0_stepUp_43 : decode cX0_stepUp 43 = .ok (.iinc 2 1, 3) := by decide +kernel
theorem dX0_stepUp_46 : decode cX0_stepUp 46 = .ok (.goto (-44), 3) := by decide +kernel
theorem dX0_stepUp_49 : decode cX0_stepUp 49 = .ok (.return_, 1) := by decide +kernel
set_option maxRecDepth 20000 in
theorem ggX0_endsSteppingDown_X8_at : GoodIn wsX0_endsSteppingDown wsX8_at := goodIn_r _ [12] (by decide +kernel) (by decide +kernel)
set_option maxRecDepth 20000 in
theorem gX0_endsSteppingDown_X8_at_n34 : GoodIn wsX0_endsSteppingDown (wsX8_at) := ggX0_endsSteppingDown_X8_at
set_option maxRecDepth 20000 in
theorem ggX0_endsSteppingDown_X7_isBlock : GoodIn wsX0_endsSteppingDown wsX7_isBlock := goodIn_r _ [17, 18, 26, 27, 28, 29, 30, 31, 32] (by decide +kernel) (by decide +kernel)
set_option maxRecDepth 20000 in
theorem gX0_endsSteppingDown_X7_isBlock : GoodIn wsX0_endsSteppingDown (wsV RX0 62 RX7 yX7_isBlock wsX7_isBlock) := goodIn_app (goodIn_of _ (by decide +kernel)) ggX0_endsSteppingDown_X7_isBlock
theorem dX0_endsSteppingDown_0 : decode cX0_endsSteppingDown 0 = .ok (.aload_n 0, 1) := by decide +kernel
theorem dX0_endsSteppingDown_1 : decode cX0_endsSteppingDown 1 = .ok (.getfield 21, 3) := by decide +kernel
theorem dX0_endsSteppingDown_4 : decode cX0_endsSteppingDown 4 = .ok (.ifCond .eq 22, 3) := by decide +kernel
theorem dX0_endsSteppingDown_7 : decode cX0_endsSteppingDown 7 = .ok (.aload_n 0, 1) := by decide +kernel
theorem dX0_endsSteppingDown_8 : decode cX0_endsSteppingDown 8 = .ok (.getfield 38, 3) := by decide +kernel
theorem dX0_endsSteppingDown_11 : decode cX0_endsSteppingDown 11 = .ok (.ineg, 1) := by decide +kernel
theorem dX0_endsSteppingDown_12 : decode cX0_endsSteppingDown 12 = .ok (.aload_n 1, 1) := by decide +kernel
theorem dX0_endsSteppingDown_13 : decode cX0_endsSteppingDown 13 = .ok (.getfield 28, 3) := by decide +kernel
theorem dX0_endsSteppingDown_16 : decode cX0_endsSteppingDown 16 = .ok (.iconst 2, 1) := by decide +kernel
theorem dX0_endsSteppingDown_17 : decode cX0_endsSteppingDown 17 = .ok (.invokestatic 34, 3) := by decide +kernel
theorem dX0_endsSteppingDown_20 : decode cX0_endsSteppingDown 20 = .ok (.invokestatic 66, 3) := by decide +kernel
theorem dX0_endsSteppingDown_23 : decode cX0_endsSteppingDown 23 = .ok (.goto 8, 3) := by decide +kernel
theorem dX0_endsSteppingDown_26 : decode cX0_endsSteppingDown 26 = .ok (.aload_n 0, 1) := by decide +kernel
theorem dX0_endsSteppingDown_27 : decode cX0_endsSteppingDown 27 = .ok (.getfield 38, 3) := by decide +kernel
theorem dX0_endsSteppingDown_30 : decode cX0_endsSteppingDown 30 = .ok (.ineg, 1) := by decide +kernel
theorem dX0_endsSteppingDown_31 : decode cX0_endsSteppingDown 31 = .ok (.istore_n 2, 1) := by decide +kernel
theorem dX0_endsSteppingDown_32 : decode cX0_endsSteppingDown 32 = .ok (.iconst 0, 1) := by decide +kernel
theorem dX0_endsSteppingDown_33 : decode cX0_endsSteppingDown 33 = .ok (.istore_n 3, 1) := by decide +kernel
theorem dX0_endsSteppingDown_34 : decode cX0_endsSteppingDown 34 = .ok (.iload_n 3, 1) := by decide +kernel
theorem dX0_endsSteppingDown_35 : decode cX0_endsSteppingDown 35 = .ok (.iload_n 2, 1) := by decide +kernel
theorem dX0_endsSteppingDown_36 : decode cX0_endsSteppingDown 36 = .ok (.if_icmp .ge 38, 3) := by decide +kernel
theorem dX0_endsSteppingDown_39 : decode cX0_endsSteppingDown 39 = .ok (.aload_n 1, 1) := by decide +kernel
theorem dX0_endsSteppingDown_40 : decode cX0_endsSteppingDown 40 = .ok (.aload_n 0, 1) := by decide +kernel
theorem dX0_endsSteppingDown_41 : decode cX0_endsSteppingDown 41 = .ok (.getfield 9, 3) := by decide +kernel
theorem dX0_endsSteppingDown_44 : decode cX0_endsSteppingDown 44 = .ok (.aload_n 0, 1) := by decide +kernel
theorem dX0_endsSteppingDown_45 : decode cX0_endsSteppingDown 45 = .ok (.getfield 15, 3) := by decide +kernel
theorem dX0_endsSteppingDown_48 : decode cX0_endsSteppingDown 48 = .ok (.iconst 1, 1) := by decide +kernel
theorem dX0_endsSteppingDown_49 : decode cX0_endsSteppingDown 49 = .ok (.isub, 1) := by decide +kernel
theorem dX0_endsSteppingDown_50 : decode cX0_endsSteppingDown 50 = .ok (.invokevirtual 62, 3) := by decide +kernel
theorem dX0_endsSteppingDown_53 : decode cX0_endsSteppingDown 53 = .ok (.ifCond .eq 5, 3) := by decide +kernel
theorem dX0_endsSteppingDown_56 : decode cX0_endsSteppingDown 56 = .ok (.iconst 1, 1) := by decide +kernel
theorem dX0_endsSteppingDown_57 : decode cX0_endsSteppingDown 57 = .ok (.ireturn, 1) := by decide +kernel
theorem dX0_endsSteppingDown_58 : decode cX0_endsSteppingDown 58 = .ok (.aload_n 0, 1) := by decide +kernel
theorem dX0_endsSteppingDown_59 : decode cX0_endsSteppingDown 59 = .ok (.dup, 1) := by decide +kernel
theorem dX0_endsSteppingDown_60 : decode cX0_endsSteppingDown 60 = .ok (.getfield 15, 3) := by decide +kernel
theorem dX0_endsSteppingDown_63 : decode cX0_endsSteppingDown 63 = .ok (.iconst 1, 1) := by decide +kernel
theorem dX0_endsSteppingDown_64 : decode cX0_endsSteppingDown 64 = .ok (.isub, 1) := by decide +kernel
theorem dX0_endsSteppingDown_65 : decode cX0_endsSteppingDown 65 = .ok (.putfield 15, 3) := by decide +kernel
theorem dX0_endsSteppingDown_68 : decode cX0_endsSteppingDown 68 = .ok (.iinc 3 1, 3) := by decide +kernel
theorem dX0_endsSteppingDown_71 : decode cX0_endsSteppingDown 71 = .ok (.goto (-37), 3) := by decide +kernel
theorem dX0_endsSteppingDown_74 : decode cX0_endsSteppingDown 74 = .ok (.iconst 0, 1) := by decide +kernel
theorem dX0_endsSteppingDown_75 : decode cX0_endsSteppingDown 75 = .ok (.ireturn, 1) := by decide +kernel
set_option maxRecDepth 20000 in
theorem ggX1_init_X7_init : GoodIn wsX1_init wsX7_init := goodIn_r _ [9, 10, 2, 3, 11, 12, 13, 16, 17, 18, 19, 20, 21, 22] (by decide +kernel) (by decide +kernel)
set_option maxRecDepth 20000 in
theorem gX1_init_X7_init_n17 : GoodIn wsX1_init (wsX7_init) := ggX1_init_X7_init
theorem dX1_init_0 : decode cX1_init 0 = .ok (.aload_n 0, 1) := by decide +kernel
theorem dX1_init_1 : decode cX1_init 1 = .ok (.invokespecial 3, 3) := by decide +kernel
theorem dX1_init_4 : decode cX1_init 4 = .ok (.aload_n 0, 1) := by decide +kernel
theorem dX1_init_5 : decode cX1_init 5 = .ok (.bipush 6, 2) := by decide +kernel
theorem dX1_init_7 : decode cX1_init 7 = .ok (.anewarray 9, 3) := by decide +kernel
theorem dX1_init_10 : decode cX1_init 10 = .ok (.putfield 11, 3) := by decide +kernel
theorem dX1_init_13 : decode cX1_init 13 = .ok (.iconst 0, 1) := by decide +kernel
theorem dX1_init_14 : decode cX1_init 14 = .ok (.istore_n 1, 1) := by decide +kernel
theorem dX1_init_15 : decode cX1_init 15 = .ok (.iload_n 1, 1) := by decide +kernel
theorem dX1_init_16 : decode cX1_init 16 = .ok (.bipush 6, 2) := by decide +kernel
theorem dX1_init_18 : decode cX1_init 18 = .ok (.if_icmp .ge 22, 3) := by decide +kernel
theorem dX1_init_21 : decode cX1_init 21 = .ok (.aload_n 0, 1) := by decide +kernel
theorem dX1_init_22 : decode cX1_init 22 = .ok (.getfield 11, 3) := by decide +kernel
theorem dX1_init_25 : decode cX1_init 25 = .ok (.iload_n 1, 1) := by decide +kernel
theorem dX1_init_26 : decode cX1_init 26 = .ok (.new 9, 3) := by decide +kernel
theorem dX1_init_29 : decode cX1_init 29 = .ok (.dup, 1) := by decide +kernel
theorem dX1_init_30 : decode cX1_init 30 = .ok (.invokespecial 17, 3) := by decide +kernel
theorem dX1_init_33 : decode cX1_init 33 = .ok (.aastore, 1) := by decide +kernel
theorem dX1_init_34 : decode cX1_init 34 = .ok (.iinc 1 1, 3) := by decide +kernel
theorem dX1_init_37 : decode cX1_init 37 = .ok (.goto (-22), 3) := by decide +kernel
theorem dX1_init_40 : decode cX1_init 40 = .ok (.return_, 1) := by decide +kernel
set_option maxRecDepth 20000 in
theorem ggX1_save_X1_dropOldest : GoodIn wsX1_save wsX1_dropOldest := goodIn_r _ [7, 2, 1, 24, 25] (by decide +kernel) (by decide +kernel)
set_option maxRecDepth 20000 in
theorem gX1_save_X1_dropOldest : GoodIn wsX1_save (wsV RX1 22 RX1 yX1_dropOldest wsX1_dropOldest) := goodIn_app (goodIn_of _ (by decide +kernel)) ggX1_save_X1_dropOldest
set_option maxRecDepth 20000 in
theorem ggX1_save_X7_becomeLike : GoodIn wsX1_save wsX7_becomeLike := goodIn_r _ [12, 13, 14, 15, 16, 17, 18, 19, 20, 21, 22, 23, 26, 27, 28, 29, 30, 31, 32] (by decide +kernel) (by decide +kernel)
set_option maxRecDepth 20000 in
theorem gX1_save_X7_becomeLike : GoodIn wsX1_save (wsV RX1 25 RX7 yX7_becomeLike wsX7_becomeLike) := goodIn_app (goodIn_of _ (by decide +kernel)) ggX1_save_X7_becomeLike
theorem dX1_save_0 : decode cX1_save 0 = .ok (.aload_n 0, 1) := by decide +kernel
theorem dX1_save_1 : decode cX1_save 1 = .ok (.getfield 18, 3) := by decide +kernel
theorem dX1_save_4 : decode cX1_save 4 = .ok (.bipush 6, 2) := by decide +kernel
theorem dX1_save_6 : decode cX1_save 6 = .ok (.if_icmp .lt 7, 3) := by decide +kernel
theorem dX1_save_9 : decode cX1_save 9 = .ok (.aload_n 0, 1) := by decide +kernel
theorem dX1_save_10 : decode cX1_save 10 = .ok (.invokevirtual 22, 3) := by decide +kernel
theorem dX1_save_13 : decode cX1_save 13 = .ok (.aload_n 0, 1) := by decide +kernel
theorem dX1_save_14 : decode cX1_save 14 = .ok (.getfield 18, 3) := by decide +kernel
theorem dX1_save_17 : decode cX1_save 17 = .ok (.ifCond .lt 24, 3) := by decide +kernel
theorem dX1_save_20 : decode cX1_save 20 = .ok (.aload_n 0, 1) := by decide +kernel
theorem dX1_save_21 : decode cX1_save 21 = .ok (.getfield 18, 3) := by decide +kernel
theorem dX1_save_24 : decode cX1_save 24 = .ok (.bipush 6, 2) := by decide +kernel
theorem dX1_save_26 : decode cX1_save 26 = .ok (.if_icmp .ge 15, 3) := by decide +kernel
theorem dX1_save_29 : decode cX1_save 29 = .ok (.aload_n 0, 1) := by decide +kernel
theorem dX1_save_30 : decode cX1_save 30 = .ok (.getfield 11, 3) := by decide +kernel
theorem dX1_save_33 : decode cX1_save 33 = .ok (.aload_n 0, 1) := by decide +kernel
theorem dX1_save_34 : decode cX1_save 34 = .ok (.getfield 18, 3) := by decide +kernel
theorem dX1_save_37 : decode cX1_save 37 = .ok (.aaload, 1) := by decide +kernel
theorem dX1_save_38 : decode cX1_save 38 = .ok (.goto 4, 3) := by decide +kernel
theorem dX1_save_41 : decode cX1_save 41 = .ok (.aconst_null, 1) := by decide +kernel
theorem dX1_save_42 : decode cX1_save 42 = .ok (.astore_n 2, 1) := by decide +kernel
theorem dX1_save_43 : decode cX1_save 43 = .ok (.aload_n 2, 1) := by decide +kernel
theorem dX1_save_44 : decode cX1_save 44 = .ok (.ifnull 18, 3) := by decide +kernel
theorem dX1_save_47 : decode cX1_save 47 = .ok (.aload_n 2, 1) := by decide +kernel
theorem dX1_save_48 : decode cX1_save 48 = .ok (.aload_n 1, 1) := by decide +kernel
theorem dX1_save_49 : decode cX1_save 49 = .ok (.invokevirtual 25, 3) := by decide +kernel
theorem dX1_save_52 : decode cX1_save 52 = .ok (.aload_n 0, 1) := by decide +kernel
theorem dX1_save_53 : decode cX1_save 53 = .ok (.dup, 1) := by decide +kernel
theorem dX1_save_54 : decode cX1_save 54 = .ok (.getfield 18, 3) := by decide +kernel
theorem dX1_save_57 : decode cX1_save 57 = .ok (.iconst 1, 1) := by decide +kernel
theorem dX1_save_58 : decode cX1_save 58 = .ok (.iadd, 1) := by decide +kernel
theorem dX1_save_59 : decode cX1_save 59 = .ok (.putfield 18, 3) := by decide +kernel
theorem dX1_save_62 : decode cX1_save 62 = .ok (.return_, 1) := by decide +kernel
theorem dX1_dropOldest_0 : decode cX1_dropOldest 0 = .ok (.aload_n 0, 1) := by decide +kernel
theorem dX1_dropOldest_1 : decode cX1_dropOldest 1 = .ok (.getfield 11, 3) := by decide +kernel
theorem dX1_dropOldest_4 : decode cX1_dropOldest 4 = .ok (.iconst 0, 1) := by decide +kernel
theorem dX1_dropOldest_5 : decode cX1_dropOldest 5 = .ok (.aaload, 1) := by decide +kernel
theorem dX1_dropOldest_6 : decode cX1_dropOldest 6 = .ok (.astore_n 1, 1) := by decide +kernel
theorem dX1_dropOldest_7 : decode cX1_dropOldest 7 = .ok (.iconst 1, 1) := by decide +kernel
theorem dX1_dropOldest_8 : decode cX1_dropOldest 8 = .ok (.istore_n 2, 1) := by decide +kernel
theorem dX1_dropOldest_9 : decode cX1_dropOldest 9 = .ok (.iload_n 2, 1) := by decide +kernel
theorem dX1_dropOldest_10 : decode cX1_dropOldest 10 = .ok (.bipush 6, 2) := by decide +kernel
theorem dX1_dropOldest_12 : decode cX1_dropOldest 12 = .ok (.if_icmp .ge 23, 3) := by decide +kernel
theorem dX1_dropOldest_15 : decode cX1_dropOldest 15 = .ok (.aload_n 0, 1) := by decide +kernel
theorem dX1_dropOldest_16 : decode cX1_dropOldest 16 = .ok (.getfield 11, 3) := by decide +kernel
theorem dX1_dropOldest_19 : decode cX1_dropOldest 19 = .ok (.iload_n 2, 1) := by decide +kernel
theorem dX1_dropOldest_20 : decode cX1_dropOldest 20 = .ok (.iconst 1, 1) := by decide +kernel
theorem dX1_dropOldest_21 : decode cX1_dropOldest 21 = .ok (.isub, 1) := by decide +kernel
theorem dX1_dropOldest_22 : decode cX1_dropOldest 22 = .ok (.aload_n 0, 1) := by decide +kernel
theorem dX1_dropOldest_23 : decode cX1_dropOldest 23 = .ok (.getfield 11, 3) := by decide +kernel
theorem dX1_dropOldest_26 : decode cX1_dropOldest 26 = .ok (.iload_n 2, 1) := by decide +kernel
theorem dX1_dropOldest_27 : decode cX1_dropOldest 27 = .ok (.aaload, 1) := by decide +kernel
theorem dX1_dropOldest_28 : decode cX1_dropOldest 28 = .ok (.aastore, 1) := by decide +kernel
theorem dX1_dropOldest_29 : decode cX1_dropOldest 29 = .ok (.iinc 2 1, 3) := by decide +kernel
theorem dX1_dropOldest_32 : decode cX1_dropOldest 32 = .ok (.goto (-23), 3) := by decide +kernel
theorem dX1_dropOldest_35 : decode cX1_dropOldest 35 = .ok (.aload_n 0, 1) := by decide +kernel
theorem dX1_dropOldest_36 : decode cX1_dropOldest 36 = .ok (.getfield 11, 3) := by decide +kernel
theorem dX1_dropOldest_39 : decode cX1_dropOldest 39 = .ok (.iconst 5, 1) := by decide +kernel
theorem dX1_dropOldest_40 : decode cX1_dropOldest 40 = .ok (.aload_n 1, 1) := by decide +kernel
theorem dX1_dropOldest_41 : decode cX1_dropOldest 41 = .ok (.aastore, 1) := by decide +kernel
theorem dX1_dropOldest_42 : decode cX1_dropOldest 42 = .ok (.aload_n 0, 1) := by decide +kernel
theorem dX1_dropOldest_43 : decode cX1_dropOldest 43 = .ok (.iconst 5, 1) := by decide +kernel
theorem dX1_dropOldest_44 : decode cX1_dropOldest 44 = .ok (.putfield 18, 3) := by decide +kernel
theorem dX1_dropOldest_47 : decode cX1_dropOldest 47 = .ok (.return_, 1) := by decide +kernel
theorem dX2_init_0 : decode cX2_init 0 = .ok (.aload_n 0, 1) := by decide +kernel
theorem dX2_init_1 : decode cX2_init 1 = .ok (.invokespecial 3, 3) := by decide +kernel
theorem dX2_init_4 : decode cX2_init 4 = .ok (.aload_n 0, 1) := by decide +kernel
theorem dX2_init_5 : decode cX2_init 5 = .ok (.bipush 100, 2) := by decide +kernel
theorem dX2_init_7 : decode cX2_init 7 = .ok (.newarray .int, 2) := by decide +kernel
theorem dX2_init_9 : decode cX2_init 9 = .ok (.putfield 9, 3) := by decide +kernel
theorem dX2_init_12 : decode cX2_init 12 = .ok (.aload_n 0, 1) := by decide +kernel
theorem dX2_init_13 : decode cX2_init 13 = .ok (.bipush 100, 2) := by decide +kernel
theorem dX2_init_15 : decode cX2_init 15 = .ok (.newarray .int, 2) := by decide +kernel
theorem dX2_init_17 : decode cX2_init 17 = .ok (.putfield 15, 3) := by decide +kernel
theorem dX2_init_20 : decode cX2_init 20 = .ok (.aload_n 0, 1) := by decide +kernel
theorem dX2_init_21 : decode cX2_init 21 = .ok (.bipush 100, 2) := by decide +kernel
theorem dX2_init_23 : decode cX2_init 23 = .ok (.newarray .int, 2) := by decide +kernel
theorem dX2_init_25 : decode cX2_init 25 = .ok (.putfield 18, 3) := by decide +kernel
theorem dX2_init_28 : decode cX2_init 28 = .ok (.aload_n 0, 1) := by decide +kernel
theorem dX2_init_29 : decode cX2_init 29 = .ok (.sipush 200, 3) := by decide +kernel
theorem dX2_init_32 : decode cX2_init 32 = .ok (.newarray .int, 2) := by decide +kernel
theorem dX2_init_34 : decode cX2_init 34 = .ok (.putfield 21, 3) := by decide +kernel
theorem dX2_init_37 : decode cX2_init 37 = .ok (.return_, 1) := by decide +kernel
set_option maxRecDepth 20000 in
theorem ggX2_draw_X7_canStand : GoodIn wsX2_draw wsX7_canStand := goodIn_r _ [7, 8, 9, 10, 6, 11, 12, 31, 32, 33, 34, 35, 36, 37] (by decide +kernel) (by decide +kernel)
set_option maxRecDepth 20000 in
theorem gX2_draw_X7_canStand : GoodIn wsX2_draw (wsV RX2 28 RX7 yX7_canStand wsX7_canStand) := goodIn_app (goodIn_of _ (by decide +kernel)) ggX2_draw_X7_canStand
set_option maxRecDepth 20000 in
theorem ggX2_draw_X2_addCell : GoodIn wsX2_draw wsX2_addCell := goodIn_r _ [17, 18, 1, 19, 20, 2, 21, 22, 23, 24, 25, 26, 27, 28, 29, 30] (by decide +kernel) (by decide +kernel)
set_option maxRecDepth 20000 in
theorem gX2_draw_X2_addCell : GoodIn wsX2_draw (wsV RX2 34 RX2 yX2_addCell wsX2_addCell) := goodIn_app (goodIn_of _ (by decide +kernel)) ggX2_draw_X2_addCell
set_option maxRecDepth 20000 in
theorem ggX2_draw_X8_store : GoodIn wsX2_draw wsX8_store := goodIn_r _ [23] (by decide +kernel) (by decide +kernel)
set_option maxRecDepth 20000 in
theorem gX2_draw_X8_store_n38 : GoodIn wsX2_draw (wsX8_store) := ggX2_draw_X8_store
theorem dX2_draw_0 : decode cX2_draw 0 = .ok (.aload_n 0, 1) := by decide +kernel
theorem dX2_draw_1 : decode cX2_draw 1 = .ok (.iconst 0, 1) := by decide +kernel
theorem dX2_draw_2 : decode cX2_draw 2 = .ok (.putfield 24, 3) := by decide +kernel
theorem dX2_draw_5 : decode cX2_draw 5 = .ok (.iconst 0, 1) := by decide +kernel
theorem dX2_draw_6 : decode cX2_draw 6 = .ok (.istore_n 2, 1) := by decide +kernel
theorem dX2_draw_7 : decode cX2_draw 7 = .ok (.iload_n 2, 1) := by decide +kernel
theorem dX2_draw_8 : decode cX2_draw 8 = .ok (.bipush 10, 2) := by decide +kernel
theorem dX2_draw_10 : decode cX2_draw 10 = .ok (.if_icmp .ge 63, 3) := by decide +kernel
theorem dX2_draw_13 : decode cX2_draw 13 = .ok (.iconst 0, 1) := by decide +kernel
theorem dX2_draw_14 : decode cX2_draw 14 = .ok (.istore_n 3, 1) := by decide +kernel
theorem dX2_draw_15 : decode cX2_draw 15 = .ok (.iload_n 3, 1) := by decide +kernel
theorem dX2_draw_16 : decode cX2_draw 16 = .ok (.bipush 20, 2) := by decide +kernel
theorem dX2_draw_18 : decode cX2_draw 18 = .ok (.if_icmp .ge 49, 3) := by decide +kernel
theorem dX2_draw_21 : decode cX2_draw 21 = .ok (.aload_n 1, 1) := by decide +kernel
theorem dX2_draw_22 : decode cX2_draw 22 = .ok (.iload_n 3, 1) := by decide +kernel
theorem dX2_draw_23 : decode cX2_draw 23 = .ok (.iload_n 2, 1) := by decide +kernel
theorem dX2_draw_24 : decode cX2_draw 24 = .ok (.invokevirtual 28, 3) := by decide +kernel
theorem dX2_draw_27 : decode cX2_draw 27 = .ok (.ifCond .eq 20, 3) := by decide +kernel
theorem dX2_draw_30 : decode cX2_draw 30 = .ok (.aload_n 0, 1) := by decide +kernel
theorem dX2_draw_31 : decode cX2_draw 31 = .ok (.iload_n 3, 1) := by decide +kernel
theorem dX2_draw_32 : decode cX2_draw 32 = .ok (.iload_n 2, 1) := by decide +kernel
theorem dX2_draw_33 : decode cX2_draw 33 = .ok (.aload_n 1, 1) := by decide +kernel
theorem dX2_draw_34 : decode cX2_draw 34 = .ok (.iload_n 3, 1) := by decide +kernel
theorem dX2_draw_35 : decode cX2_draw 35 = .ok (.iconst 1, 1) := by decide +kernel
theorem dX2_draw_36 : decode cX2_draw 36 = .ok (.isub, 1) := by decide +kernel
theorem dX2_draw_37 : decode cX2_draw 37 = .ok (.iload_n 2, 1) := by decide +kernel
theorem dX2_draw_38 : decode cX2_draw 38 = .ok (.invokevirtual 28, 3) := by decide +kernel
theorem dX2_draw_41 : decode cX2_draw 41 = .ok (.invokevirtual 34, 3) := by decide +kernel
theorem dX2_draw_44 : decode cX2_draw 44 = .ok (.goto 17, 3) := by decide +kernel
theorem dX2_draw_47 : decode cX2_draw 47 = .ok (.aload_n 0, 1) := by decide +kernel
theorem dX2_draw_48 : decode cX2_draw 48 = .ok (.getfield 21, 3) := by decide +kernel
theorem dX2_draw_51 : decode cX2_draw 51 = .ok (.iload_n 2, 1) := by decide +kernel
theorem dX2_draw_52 : decode cX2_draw 52 = .ok (.bipush 20, 2) := by decide +kernel
theorem dX2_draw_54 : decode cX2_draw 54 = .ok (.imul, 1) := by decide +kernel
theorem dX2_draw_55 : decode cX2_draw 55 = .ok (.iload_n 3, 1) := by decide +kernel
theorem dX2_draw_56 : decode cX2_draw 56 = .ok (.iadd, 1) := by decide +kernel
theorem dX2_draw_57 : decode cX2_draw 57 = .ok (.iconst (-1), 1) := by decide +kernel
theorem dX2_draw_58 : decode cX2_draw 58 = .ok (.invokestatic 38, 3) := by decide +kernel
theorem dX2_draw_61 : decode cX2_draw 61 = .ok (.iinc 3 1, 3) := by decide +kernel
theorem dX2_draw_64 : decode cX2_draw 64 = .ok (.goto (-49), 3) := by decide +kernel
theorem dX2_draw_67 : decode cX2_draw 67 = .ok (.iinc 2 1, 3) := by decide +kernel
theorem dX2_draw_70 : decode cX2_draw 70 = .ok (.goto (-63), 3) := by decide +kernel
theorem dX2_draw_73 : decode cX2_draw 73 = .ok (.return_, 1) := by decide +kernel
set_option maxRecDepth 20000 in
theorem ggX2_addCell_X8_store : GoodIn wsX2_addCell wsX8_store := goodIn_r _ [8] (by decide +kernel) (by decide +kernel)
set_option maxRecDepth 20000 in
theorem gX2_addCell_X8_store_n38 : GoodIn wsX2_addCell (wsX8_store) := ggX2_addCell_X8_store
set_option maxRecDepth 20000 in
theorem ggX2_addCell_X8_at : GoodIn wsX2_addCell wsX8_at := goodIn_r _ [10] (by decide +kernel) (by decide +kernel)
set_option maxRecDepth 20000 in
theorem gX2_addCell_X8_at_n42 : GoodIn wsX2_addCell (wsX8_at) := ggX2_addCell_X8_at
theorem dX2_addCell_0 : decode cX2_addCell 0 = .ok (.iload_n 3, 1) := by decide +kernel
theorem dX2_addCell_1 : decode cX2_addCell 1 = .ok (.ifCond .ne 49, 3) := by decide +kernel
theorem dX2_addCell_4 : decode cX2_addCell 4 = .ok (.aload_n 0, 1) := by decide +kernel
theorem dX2_addCell_5 : decode cX2_addCell 5 = .ok (.getfield 9, 3) := by decide +kernel
theorem dX2_addCell_8 : decode cX2_addCell 8 = .ok (.aload_n 0, 1) := by decide +kernel
theorem dX2_addCell_9 : decode cX2_addCell 9 = .ok (.getfield 24, 3) := by decide +kernel
theorem dX2_addCell_12 : decode cX2_addCell 12 = .ok (.iload_n 2, 1) := by decide +kernel
theorem dX2_addCell_13 : decode cX2_addCell 13 = .ok (.invokestatic 38, 3) := by decide +kernel
theorem dX2_addCell_16 : decode cX2_addCell 16 = .ok (.aload_n 0, 1) := by decide +kernel
theorem dX2_addCell_17 : decode cX2_addCell 17 = .ok (.getfield 15, 3) := by decide +kernel
theorem dX2_addCell_20 : decode cX2_addCell 20 = .ok (.aload_n 0, 1) := by decide +kernel
theorem dX2_addCell_21 : decode cX2_addCell 21 = .ok (.getfield 24, 3) := by decide +kernel
theorem dX2_addCell_24 : decode cX2_addCell 24 = .ok (.iload_n 1, 1) := by decide +kernel
theorem dX2_addCell_25 : decode cX2_addCell 25 = .ok (.invokestatic 38, 3) := by decide +kernel
theorem dX2_addCell_28 : decode cX2_addCell 28 = .ok (.aload_n 0, 1) := by decide +kernel
theorem dX2_addCell_29 : decode cX2_addCell 29 = .ok (.getfield 18, 3) := by decide +kernel
theorem dX2_addCell_32 : decode cX2_addCell 32 = .ok (.aload_n 0, 1) := by decide +kernel
theorem dX2_addCell_33 : decode cX2_addCell 33 = .ok (.getfield 24, 3) := by decide +kernel
theorem dX2_addCell_36 : decode cX2_addCell 36 = .ok (.iconst 0, 1) := by decide +kernel
theorem dX2_addCell_37 : decode cX2_addCell 37 = .ok (.invokestatic 38, 3) := by decide +kernel
theorem dX2_addCell_40 : decode cX2_addCell 40 = .ok (.aload_n 0, 1) := by decide +kernel
theorem dX2_addCell_41 : decode cX2_addCell 41 = .ok (.dup, 1) := by decide +kernel
theorem dX2_addCell_42 : decode cX2_addCell 42 = .ok (.getfield 24, 3) := by decide +kernel
theorem dX2_addCell_45 : decode cX2_addCell 45 = .ok (.iconst 1, 1) := by decide +kernel
theorem dX2_addCell_46 : decode cX2_addCell 46 = .ok (.iadd, 1) := by decide +kernel
theorem dX2_addCell_47 : decode cX2_addCell 47 = .ok (.putfield 24, 3) := by decide +kernel
theorem dX2_addCell_50 : decode cX2_addCell 50 = .ok (.aload_n 0, 1) := by decide +kernel
theorem dX2_addCell_51 : decode cX2_addCell 51 = .ok (.getfield 24, 3) := by decide +kernel
theorem dX2_addCell_54 : decode cX2_addCell 54 = .ok (.iconst 1, 1) := by decide +kernel
theorem dX2_addCell_55 : decode cX2_addCell 55 = .ok (.isub, 1) := by decide +kernel
theorem dX2_addCell_56 : decode cX2_addCell 56 = .ok (.istore 4, 2) := by decide +kernel
theorem dX2_addCell_58 : decode cX2_addCell 58 = .ok (.aload_n 0, 1) := by decide +kernel
theorem dX2_addCell_59 : decode cX2_addCell 59 = .ok (.getfield 18, 3) := by decide +kernel
theorem dX2_addCell_62 : decode cX2_addCell 62 = .ok (.iload 4, 2) := by decide +kernel
theorem dX2_addCell_64 : decode cX2_addCell 64 = .ok (.aload_n 0, 1) := by decide +kernel
theorem dX2_addCell_65 : decode cX2_addCell 65 = .ok (.getfield 18, 3) := by decide +kernel
theorem dX2_addCell_68 : decode cX2_addCell 68 = .ok (.iload 4, 2) := by decide +kernel
theorem dX2_addCell_70 : decode cX2_addCell 70 = .ok (.invokestatic 42, 3) := by decide +kernel
theorem dX2_addCell_73 : decode cX2_addCell 73 = .ok (.iconst 1, 1) := by decide +kernel
theorem dX2_addCell_74 : decode cX2_addCell 74 = .ok (.iadd, 1) := by decide +kernel
theorem dX2_addCell_75 : decode cX2_addCell 75 = .ok (.invokestatic 38, 3) := by decide +kernel
theorem dX2_addCell_78 : decode cX2_addCell 78 = .ok (.aload_n 0, 1) := by decide +kernel
theorem dX2_addCell_79 : decode cX2_addCell 79 = .ok (.getfield 21, 3) := by decide +kernel
theorem dX2_addCell_82 : decode cX2_addCell 82 = .ok (.iload_n 2, 1) := by decide +kernel
theorem dX2_addCell_83 : decode cX2_addCell 83 = .ok (.bipush 20, 2) := by decide +kernel
theorem dX2_addCell_85 : decode cX2_addCell 85 = .ok (.imul, 1) := by decide +kernel
theorem dX2_addCell_86 : decode cX2_addCell 86 = .ok (.iload_n 1, 1) := by decide +kernel
theorem dX2_addCell_87 : decode cX2_addCell 87 = .ok (.iadd, 1) := by decide +kernel
theorem dX2_addCell_88 : decode cX2_addCell 88 = .ok (.iload 4, 2) := by decide +kernel
theorem dX2_addCell_90 : decode cX2_addCell 90 = .ok (.invokestatic 38, 3) := by decide +kernel
theorem dX2_addCell_93 : decode cX2_addCell 93 = .ok (.return_, 1) := by decide +kernel
theorem dX2_has_0 : decode cX2_has 0 = .ok (.iload_n 1, 1) := by decide +kernel
theorem dX2_has_1 : decode cX2_has 1 = .ok (.ifCond .lt 15, 3) := by decide +kernel
theorem dX2_has_4 : decode cX2_has 4 = .ok (.iload_n 1, 1) := by decide +kernel
theorem dX2_has_5 : decode cX2_has 5 = .ok (.aload_n 0, 1) := by decide +kernel
theorem dX2_has_6 : decode cX2_has 6 = .ok (.getfield 24, 3) := by decide +kernel
theorem dX2_has_9 : decode cX2_has 9 = .ok (.if_icmp .ge 7, 3) := by decide +kernel
theorem dX2_has_12 : decode cX2_has 12 = .ok (.iconst 1, 1) := by decide +kernel
theorem dX2_has_13 : decode cX2_has 13 = .ok (.goto 4, 3) := by decide +kernel
theorem dX2_has_16 : decode cX2_has 16 = .ok (.iconst 0, 1) := by decide +kernel
theorem dX2_has_17 : decode cX2_has 17 = .ok (.ireturn, 1) := by decide +kernel
set_option maxRecDepth 20000 in
theorem ggX2_ledgeAt_X8_isCell : GoodIn wsX2_ledgeAt wsX8_isCell := goodIn_r _ [4] (by decide +kernel) (by decide +kernel)
set_option maxRecDepth 20000 in
theorem gX2_ledgeAt_X8_isCell_n46 : GoodIn wsX2_ledgeAt (wsX8_isCell) := ggX2_ledgeAt_X8_isCell
set_option maxRecDepth 20000 in
theorem ggX2_ledgeAt_X8_at : GoodIn wsX2_ledgeAt wsX8_at := goodIn_r _ [6] (by decide +kernel) (by decide +kernel)
set_option maxRecDepth 20000 in
theorem gX2_ledgeAt_X8_at_n42 : GoodIn wsX2_ledgeAt (wsX8_at) := ggX2_ledgeAt_X8_at
theorem dX2_ledgeAt_0 : decode cX2_ledgeAt 0 = .ok (.iload_n 1, 1) := by decide +kernel
theorem dX2_ledgeAt_1 : decode cX2_ledgeAt 1 = .ok (.iload_n 2, 1) := by decide +kernel
theorem dX2_ledgeAt_2 : decode cX2_ledgeAt 2 = .ok (.invokestatic 46, 3) := by decide +kernel
theorem dX2_ledgeAt_5 : decode cX2_ledgeAt 5 = .ok (.ifCond .eq 19, 3) := by decide +kernel
theorem dX2_ledgeAt_8 : decode cX2_ledgeAt 8 = .ok (.aload_n 0, 1) := by decide +kernel
theorem dX2_ledgeAt_9 : decode cX2_ledgeAt 9 = .ok (.getfield 21, 3) := by decide +kernel
theorem dX2_ledgeAt_12 : decode cX2_ledgeAt 12 = .ok (.iload_n 2, 1) := by decide +kernel
theorem dX2_ledgeAt_13 : decode cX2_ledgeAt 13 = .ok (.bipush 20, 2) := by decide +kernel
theorem dX2_ledgeAt_15 : decode cX2_ledgeAt 15 = .ok (.imul, 1) := by decide +kernel
theorem dX2_ledgeAt_16 : decode cX2_ledgeAt 16 = .ok (.iload_n 1, 1) := by decide +kernel
theorem dX2_ledgeAt_17 : decode cX2_ledgeAt 17 = .ok (.iadd, 1) := by decide +kernel
theorem dX2_ledgeAt_18 : decode cX2_ledgeAt 18 = .ok (.invokestatic 42, 3) := by decide +kernel
theorem dX2_ledgeAt_21 : decode cX2_ledgeAt 21 = .ok (.goto 4, 3) := by decide +kernel
theorem dX2_ledgeAt_24 : decode cX2_ledgeAt 24 = .ok (.iconst (-1), 1) := by decide +kernel
theorem dX2_ledgeAt_25 : decode cX2_ledgeAt 25 = .ok (.ireturn, 1) := by decide +kernel
theorem dX3_init_0 : decode cX3_init 0 = .ok (.aload_n 0, 1) := by decide +kernel
theorem dX3_init_1 : decode cX3_init 1 = .ok (.invokespecial 3, 3) := by decide +kernel
theorem dX3_init_4 : decode cX3_init 4 = .ok (.aload_n 0, 1) := by decide +kernel
theorem dX3_init_5 : decode cX3_init 5 = .ok (.bipush 60, 2) := by decide +kernel
theorem dX3_init_7 : decode cX3_init 7 = .ok (.newarray .int, 2) := by decide +kernel
theorem dX3_init_9 : decode cX3_init 9 = .ok (.putfield 9, 3) := by decide +kernel
theorem dX3_init_12 : decode cX3_init 12 = .ok (.aload_n 0, 1) := by decide +kernel
theorem dX3_init_13 : decode cX3_init 13 = .ok (.iconst 0, 1) := by decide +kernel
theorem dX3_init_14 : decode cX3_init 14 = .ok (.putfield 15, 3) := by decide +kernel
theorem dX3_init_17 : decode cX3_init 17 = .ok (.return_, 1) := by decide +kernel
set_option maxRecDepth 20000 in
theorem ggX4_init_X0_init : GoodIn wsX4_init wsX0_init := goodIn_r _ [11, 12, 2, 3] (by decide +kernel) (by decide +kernel)
set_option maxRecDepth 20000 in
theorem gX4_init_X0_init_n17 : GoodIn wsX4_init (wsX0_init) := ggX4_init_X0_init
theorem dX4_init_0 : decode cX4_init 0 = .ok (.aload_n 0, 1) := by decide +kernel
theorem dX4_init_1 : decode cX4_init 1 = .ok (.invokespecial 3, 3) := by decide +kernel
theorem dX4_init_4 : decode cX4_init 4 = .ok (.aload_n 0, 1) := by decide +kernel
theorem dX4_init_5 : decode cX4_init 5 = .ok (.sipush 10000, 3) := by decide +kernel
theorem dX4_init_8 : decode cX4_init 8 = .ok (.newarray .int, 2) := by decide +kernel
theorem dX4_init_10 : decode cX4_init 10 = .ok (.putfield 9, 3) := by decide +kernel
theorem dX4_init_13 : decode cX4_init 13 = .ok (.aload_n 0, 1) := by decide +kernel
theorem dX4_init_14 : decode cX4_init 14 = .ok (.new 15, 3) := by decide +kernel
theorem dX4_init_17 : decode cX4_init 17 = .ok (.dup, 1) := by decide +kernel
theorem dX4_init_18 : decode cX4_init 18 = .ok (.invokespecial 17, 3) := by decide +kernel
theorem dX4_init_21 : decode cX4_init 21 = .ok (.putfield 18, 3) := by decide +kernel
theorem dX4_init_24 : decode cX4_init 24 = .ok (.return_, 1) := by decide +kernel
set_option maxRecDepth 20000 in
theorem ggX4_find_J7_fill_53178 : GoodIn wsX4_find wsJ7_fill_53178 := goodIn_r _ [7] (by decide +kernel) (by decide +kernel)
set_option maxRecDepth 20000 in
theorem gX4_find_J7_fill_53178 : GoodIn wsX4_find (va_wsS RX4 29 yJ7_fill_53178 wsJ7_fill_53178) := goodIn_app (goodIn_of _ (by decide +kernel)) ggX4_find_J7_fill_53178
set_option maxRecDepth 20000 in
theorem ggX4_find_X4_addLeaps : GoodIn wsX4_find wsX4_addLeaps := goodIn_r _ [12, 13, 14, 15, 3, 16, 17, 18, 19, 20, 21, 22, 23, 24, 25, 26, 27, 28, 29, 30, 31, 32, 33, 34, 35, 36, 37, 38, 39, 40, 41, 42, 43, 44, 45, 46, 47, 48, 49, 50, 51, 52, 53, 54, 55, 56, 57, 58, 59, 60, 61, 62, 63, 64, 65, 66, 67, 68, 69, 70, 71, 72, 73, 74, 75, 81, 82, 83, 84, 85, 86, 87, 88, 89, 90, 76, 77, 78, 79, 80, 91, 92, 93, 94, 95, 96, 97] (by decide +kernel) (by decide +kernel)
set_option maxRecDepth 20000 in
theorem gX4_find_X4_addLeaps : GoodIn wsX4_find (wsV RX4 35 RX4 yX4_addLeaps wsX4_addLeaps) := goodIn_app (goodIn_of _ (by decide +kernel)) ggX4_find_X4_addLeaps
theorem dX4_find_0 : decode cX4_find 0 = .ok (.aload_n 0, 1) := by decide +kernel
theorem dX4_find_1 : decode cX4_find 1 = .ok (.aload_n 2, 1) := by decide +kernel
theorem dX4_find_2 : decode cX4_find 2 = .ok (.getfield 22, 3) := by decide +kernel
theorem dX4_find_5 : decode cX4_find 5 = .ok (.putfield 28, 3) := by decide +kernel
theorem dX4_find_8 : decode cX4_find 8 = .ok (.aload_n 0, 1) := by decide +kernel
theorem dX4_find_9 : decode cX4_find 9 = .ok (.getfield 9, 3) := by decide +kernel
theorem dX4_find_12 : decode cX4_find 12 = .ok (.iconst (-1), 1) := by decide +kernel
theorem dX4_find_13 : decode cX4_find 13 = .ok (.invokestatic 29, 3) := by decide +kernel
theorem dX4_find_16 : decode cX4_find 16 = .ok (.iconst 0, 1) := by decide +kernel
theorem dX4_find_17 : decode cX4_find 17 = .ok (.istore_n 3, 1) := by decide +kernel
theorem dX4_find_18 : decode cX4_find 18 = .ok (.iload_n 3, 1) := by decide +kernel
theorem dX4_find_19 : decode cX4_find 19 = .ok (.bipush 10, 2) := by decide +kernel
theorem dX4_find_21 : decode cX4_find 21 = .ok (.if_icmp .ge 45, 3) := by decide +kernel
theorem dX4_find_24 : decode cX4_find 24 = .ok (.iconst 0, 1) := by decide +kernel
theorem dX4_find_25 : decode cX4_find 25 = .ok (.istore 4, 2) := by decide +kernel
theorem dX4_find_27 : decode cX4_find 27 = .ok (.iload 4, 2) := by decide +kernel
theorem dX4_find_29 : decode cX4_find 29 = .ok (.bipush 20, 2) := by decide +kernel
theorem dX4_find_31 : decode cX4_find 31 = .ok (.if_icmp .ge 29, 3) := by decide +kernel
theorem dX4_find_34 : decode cX4_find 34 = .ok (.aload_n 0, 1) := by decide +kernel
theorem dX4_find_35 : decode cX4_find 35 = .ok (.aload_n 1, 1) := by decide +kernel
theorem dX4_find_36 : decode cX4_find 36 = .ok (.aload_n 2, 1) := by decide +kernel
theorem dX4_find_37 : decode cX4_find 37 = .ok (.iload 4, 2) := by decide +kernel
theorem dX4_find_39 : decode cX4_find 39 = .ok (.iload_n 3, 1) := by decide +kernel
theorem dX4_find_40 : decode cX4_find 40 = .ok (.iconst 1, 1) := by decide +kernel
theorem dX4_find_41 : decode cX4_find 41 = .ok (.invokevirtual 35, 3) := by decide +kernel
theorem dX4_find_44 : decode cX4_find 44 = .ok (.aload_n 0, 1) := by decide +kernel
theorem dX4_find_45 : decode cX4_find 45 = .ok (.aload_n 1, 1) := by decide +kernel
theorem dX4_find_46 : decode cX4_find 46 = .ok (.aload_n 2, 1) := by decide +kernel
theorem dX4_find_47 : decode cX4_find 47 = .ok (.iload 4, 2) := by decide +kernel
theorem dX4_find_49 : decode cX4_find 49 = .ok (.iload_n 3, 1) := by decide +kernel
theorem dX4_find_50 : decode cX4_find 50 = .ok (.iconst (-1), 1) := by decide +kernel
theorem dX4_find_51 : decode cX4_find 51 = .ok (.invokevirtual 35, 3) := by decide +kernel
theorem dX4_find_54 : decode cX4_find 54 = .ok (.iinc 4 1, 3) := by decide +kernel
theorem dX4_find_57 : decode cX4_find 57 = .ok (.goto (-30), 3) := by decide +kernel
theorem dX4_find_60 : decode cX4_find 60 = .ok (.iinc 3 1, 3) := by decide +kernel
theorem dX4_find_63 : decode cX4_find 63 = .ok (.goto (-45), 3) := by decide +kernel
theorem dX4_find_66 : decode cX4_find 66 = .ok (.return_, 1) := by decide +kernel
set_option maxRecDepth 20000 in
theorem ggX4_addLeaps_X2_ledgeAt : GoodIn wsX4_addLeaps wsX2_ledgeAt := goodIn_r _ [9, 10, 11, 12, 13, 14, 15, 75, 76, 77, 78, 79] (by decide +kernel) (by decide +kernel)
set_option maxRecDepth 20000 in
theorem gX4_addLeaps_X2_ledgeAt : GoodIn wsX4_addLeaps (wsV RX4 39 RX2 yX2_ledgeAt wsX2_ledgeAt) := goodIn_app (goodIn_of _ (by decide +kernel)) ggX4_addLeaps_X2_ledgeAt
set_option maxRecDepth 20000 in
theorem ggX4_addLeaps_X7_greatestRunUp : GoodIn wsX4_addLeaps wsX7_greatestRunUp := goodIn_r _ [20, 21, 22, 23, 19, 24, 25, 26, 27, 28, 29, 80, 81, 82, 83, 84, 85, 86] (by decide +kernel) (by decide +kernel)
set_option maxRecDepth 20000 in
theorem gX4_addLeaps_X7_greatestRunUp : GoodIn wsX4_addLeaps (wsV RX4 43 RX7 yX7_greatestRunUp wsX7_greatestRunUp) := goodIn_app (goodIn_of _ (by decide +kernel)) ggX4_addLeaps_X7_greatestRunUp
set_option maxRecDepth 20000 in
theorem ggX4_addLeaps_X0_fly : GoodIn wsX4_addLeaps wsX0_fly := goodIn_r _ [34, 35, 36, 37, 38, 39, 40, 41, 42, 43, 44, 45, 46, 14, 12, 15, 47, 48, 49, 33, 50, 51, 26, 27, 19, 28, 29, 52, 53, 54, 55, 56, 57, 58, 59, 60, 61, 62, 68, 69, 70, 71, 72, 73, 74, 80, 81, 82, 83, 84, 85, 86] (by decide +kernel) (by decide +kernel)
set_option maxRecDepth 20000 in
theorem gX4_addLeaps_X0_fly : GoodIn wsX4_addLeaps (wsV RX4 49 RX0 yX0_fly wsX0_fly) := goodIn_app (goodIn_of _ (by decide +kernel)) ggX4_addLeaps_X0_fly
set_option maxRecDepth 20000 in
theorem ggX4_addLeaps_X8_at : GoodIn wsX4_addLeaps wsX8_at := goodIn_r _ [15] (by decide +kernel) (by decide +kernel)
set_option maxRecDepth 20000 in
theorem gX4_addLeaps_X8_at_n59 : GoodIn wsX4_addLeaps (wsX8_at) := ggX4_addLeaps_X8_at
set_option maxRecDepth 20000 in
theorem ggX4_addLeaps_X8_store : GoodIn wsX4_addLeaps wsX8_store := goodIn_r _ [64] (by decide +kernel) (by decide +kernel)
set_option maxRecDepth 20000 in
theorem gX4_addLeaps_X8_store_n63 : GoodIn wsX4_addLeaps (wsX8_store) := ggX4_addLeaps_X8_store
theorem dX4_addLeaps_0 : decode cX4_addLeaps 0 = .ok (.aload_n 2, 1) := by decide +kernel
theorem dX4_addLeaps_1 : decode cX4_addLeaps 1 = .ok (.iload_n 3, 1) := by decide +kernel
theorem dX4_addLeaps_2 : decode cX4_addLeaps 2 = .ok (.iload 4, 2) := by decide +kernel
theorem dX4_addLeaps_4 : decode cX4_addLeaps 4 = .ok (.invokevirtual 39, 3) := by decide +kernel
theorem dX4_addLeaps_7 : decode cX4_addLeaps 7 = .ok (.istore 6, 2) := by decide +kernel
theorem dX4_addLeaps_9 : decode cX4_addLeaps 9 = .ok (.aload_n 1, 1) := by decide +kernel
theorem dX4_addLeaps_10 : decode cX4_addLeaps 10 = .ok (.iload_n 3, 1) := by decide +kernel
theorem dX4_addLeaps_11 : decode cX4_addLeaps 11 = .ok (.iload 4, 2) := by decide +kernel
theorem dX4_addLeaps_13 : decode cX4_addLeaps 13 = .ok (.iload 5, 2) := by decide +kernel
theorem dX4_addLeaps_15 : decode cX4_addLeaps 15 = .ok (.invokevirtual 43, 3) := by decide +kernel
theorem dX4_addLeaps_18 : decode cX4_addLeaps 18 = .ok (.istore 7, 2) := by decide +kernel
theorem dX4_addLeaps_20 : decode cX4_addLeaps 20 = .ok (.iconst 0, 1) := by decide +kernel
theorem dX4_addLeaps_21 : decode cX4_addLeaps 21 = .ok (.istore 8, 2) := by decide +kernel
theorem dX4_addLeaps_23 : decode cX4_addLeaps 23 = .ok (.iload 8, 2) := by decide +kernel
theorem dX4_addLeaps_25 : decode cX4_addLeaps 25 = .ok (.iload 7, 2) := by decide +kernel
theorem dX4_addLeaps_27 : decode cX4_addLeaps 27 = .ok (.if_icmp .gt 85, 3) := by decide +kernel
theorem dX4_addLeaps_30 : decode cX4_addLeaps 30 = .ok (.aload_n 0, 1) := by decide +kernel
theorem dX4_addLeaps_31 : decode cX4_addLeaps 31 = .ok (.getfield 18, 3) := by decide +kernel
theorem dX4_addLeaps_34 : decode cX4_addLeaps 34 = .ok (.aload_n 1, 1) := by decide +kernel
theorem dX4_addLeaps_35 : decode cX4_addLeaps 35 = .ok (.iload_n 3, 1) := by decide +kernel
theorem dX4_addLeaps_36 : decode cX4_addLeaps 36 = .ok (.iload 4, 2) := by decide +kernel
theorem dX4_addLeaps_38 : decode cX4_addLeaps 38 = .ok (.iload 5, 2) := by decide +kernel
theorem dX4_addLeaps_40 : decode cX4_addLeaps 40 = .ok (.iload 8, 2) := by decide +kernel
theorem dX4_addLeaps_42 : decode cX4_addLeaps 42 = .ok (.invokevirtual 49, 3) := by decide +kernel
theorem dX4_addLeaps_45 : decode cX4_addLeaps 45 = .ok (.iload 6, 2) := by decide +kernel
theorem dX4_addLeaps_47 : decode cX4_addLeaps 47 = .ok (.bipush 100, 2) := by decide +kernel
theorem dX4_addLeaps_49 : decode cX4_addLeaps 49 = .ok (.imul, 1) := by decide +kernel
theorem dX4_addLeaps_50 : decode cX4_addLeaps 50 = .ok (.aload_n 2, 1) := by decide +kernel
theorem dX4_addLeaps_51 : decode cX4_addLeaps 51 = .ok (.aload_n 0, 1) := by decide +kernel
theorem dX4_addLeaps_52 : decode cX4_addLeaps 52 = .ok (.getfield 18, 3) := by decide +kernel
theorem dX4_addLeaps_55 : decode cX4_addLeaps 55 = .ok (.getfield 53, 3) := by decide +kernel
theorem dX4_addLeaps_58 : decode cX4_addLeaps 58 = .ok (.aload_n 0, 1) := by decide +kernel
theorem dX4_addLeaps_59 : decode cX4_addLeaps 59 = .ok (.getfield 18, 3) := by decide +kernel
theorem dX4_addLeaps_62 : decode cX4_addLeaps 62 = .ok (.getfield 56, 3) := by decide +kernel
theorem dX4_addLeaps_65 : decode cX4_addLeaps 65 = .ok (.invokevirtual 39, 3) := by decide +kernel
theorem dX4_addLeaps_68 : decode cX4_addLeaps 68 = .ok (.iadd, 1) := by decide +kernel
theorem dX4_addLeaps_69 : decode cX4_addLeaps 69 = .ok (.istore 9, 2) := by decide +kernel
theorem dX4_addLeaps_71 : decode cX4_addLeaps 71 = .ok (.aload_n 0, 1) := by decide +kernel
theorem dX4_addLeaps_72 : decode cX4_addLeaps 72 = .ok (.getfield 9, 3) := by decide +kernel
theorem dX4_addLeaps_75 : decode cX4_addLeaps 75 = .ok (.iload 9, 2) := by decide +kernel
theorem dX4_addLeaps_77 : decode cX4_addLeaps 77 = .ok (.invokestatic 59, 3) := by decide +kernel
theorem dX4_addLeaps_80 : decode cX4_addLeaps 80 = .ok (.istore 10, 2) := by decide +kernel
theorem dX4_addLeaps_82 : decode cX4_addLeaps 82 = .ok (.iload 10, 2) := by decide +kernel
theorem dX4_addLeaps_84 : decode cX4_addLeaps 84 = .ok (.iconst (-1), 1) := by decide +kernel
theorem dX4_addLeaps_85 : decode cX4_addLeaps 85 = .ok (.if_icmp .eq 10, 3) := by decide +kernel
theorem dX4_addLeaps_88 : decode cX4_addLeaps 88 = .ok (.iload 8, 2) := by decide +kernel
theorem dX4_addLeaps_90 : decode cX4_addLeaps 90 = .ok (.iload 10, 2) := by decide +kernel
theorem dX4_addLeaps_92 : decode cX4_addLeaps 92 = .ok (.if_icmp .ge 14, 3) := by decide +kernel
theorem dX4_addLeaps_95 : decode cX4_addLeaps 95 = .ok (.aload_n 0, 1) := by decide +kernel
theorem dX4_addLeaps_96 : decode cX4_addLeaps 96 = .ok (.getfield 9, 3) := by decide +kernel
theorem dX4_addLeaps_99 : decode cX4_addLeaps 99 = .ok (.iload 9, 2) := by decide +kernel
theorem dX4_addLeaps_101 : decode cX4_addLeaps 101 = .ok (.iload 8, 2) := by decide +kernel
theorem dX4_addLeaps_103 : decode cX4_addLeaps 103 = .ok (.invokestatic 63, 3) := by decide +kernel
theorem dX4_addLeaps_106 : decode cX4_addLeaps 106 = .ok (.iinc 8 1, 3) := by decide +kernel
theorem dX4_addLeaps_109 : decode cX4_addLeaps 109 = .ok (.goto (-86), 3) := by decide +kernel
theorem dX4_addLeaps_112 : decode cX4_addLeaps 112 = .ok (.return_, 1) := by decide +kernel
set_option maxRecDepth 20000 in
theorem ggX4_leastRunUp_X8_at : GoodIn wsX4_leastRunUp wsX8_at := goodIn_r _ [4] (by decide +kernel) (by decide +kernel)
set_option maxRecDepth 20000 in
theorem gX4_leastRunUp_X8_at_n59 : GoodIn wsX4_leastRunUp (wsX8_at) := ggX4_leastRunUp_X8_at
theorem dX4_leastRunUp_0 : decode cX4_leastRunUp 0 = .ok (.aload_n 0, 1) := by decide +kernel
theorem dX4_leastRunUp_1 : decode cX4_leastRunUp 1 = .ok (.getfield 9, 3) := by decide +kernel
theorem dX4_leastRunUp_4 : decode cX4_leastRunUp 4 = .ok (.iload_n 1, 1) := by decide +kernel
theorem dX4_leastRunUp_5 : decode cX4_leastRunUp 5 = .ok (.bipush 100, 2) := by decide +kernel
theorem dX4_leastRunUp_7 : decode cX4_leastRunUp 7 = .ok (.imul, 1) := by decide +kernel
theorem dX4_leastRunUp_8 : decode cX4_leastRunUp 8 = .ok (.iload_n 2, 1) := by decide +kernel
theorem dX4_leastRunUp_9 : decode cX4_leastRunUp 9 = .ok (.iadd, 1) := by decide +kernel
theorem dX4_leastRunUp_10 : decode cX4_leastRunUp 10 = .ok (.invokestatic 59, 3) := by decide +kernel
theorem dX4_leastRunUp_13 : decode cX4_leastRunUp 13 = .ok (.ireturn, 1) := by decide +kernel
set_option maxRecDepth 20000 in
theorem ggX4_come_X4_leastRunUp : GoodIn wsX4_come wsX4_leastRunUp := goodIn_r _ [5, 6, 7, 8, 9, 10, 11, 12] (by decide +kernel) (by decide +kernel)
set_option maxRecDepth 20000 in
theorem gX4_come_X4_leastRunUp : GoodIn wsX4_come (wsV RX4 67 RX4 yX4_leastRunUp wsX4_leastRunUp) := goodIn_app (goodIn_of _ (by decide +kernel)) ggX4_come_X4_leastRunUp
theorem dX4_come_0 : decode cX4_come 0 = .ok (.aload_n 0, 1) := by decide +kernel
theorem dX4_come_1 : decode cX4_come 1 = .ok (.iload_n 1, 1) := by decide +kernel
theorem dX4_come_2 : decode cX4_come 2 = .ok (.iload_n 2, 1) := by decide +kernel
theorem dX4_come_3 : decode cX4_come 3 = .ok (.invokevirtual 67, 3) := by decide +kernel
theorem dX4_come_6 : decode cX4_come 6 = .ok (.istore 4, 2) := by decide +kernel
theorem dX4_come_8 : decode cX4_come 8 = .ok (.iload 4, 2) := by decide +kernel
theorem dX4_come_10 : decode cX4_come 10 = .ok (.iconst (-1), 1) := by decide +kernel
theorem dX4_come_11 : decode cX4_come 11 = .ok (.if_icmp .eq 13, 3) := by decide +kernel
theorem dX4_come_14 : decode cX4_come 14 = .ok (.iload 4, 2) := by decide +kernel
theorem dX4_come_16 : decode cX4_come 16 = .ok (.iload_n 3, 1) := by decide +kernel
theorem dX4_come_17 : decode cX4_come 17 = .ok (.if_icmp .gt 7, 3) := by decide +kernel
theorem dX4_come_20 : decode cX4_come 20 = .ok (.iconst 1, 1) := by decide +kernel
theorem dX4_come_21 : decode cX4_come 21 = .ok (.goto 4, 3) := by decide +kernel
theorem dX4_come_24 : decode cX4_come 24 = .ok (.iconst 0, 1) := by decide +kernel
theorem dX4_come_25 : decode cX4_come 25 = .ok (.ireturn, 1) := by decide +kernel
set_option maxRecDepth 20000 in
theorem ggX4_othersFrom_X4_come : GoodIn wsX4_othersFrom wsX4_come := goodIn_r _ [6, 7, 8, 9, 5, 10, 11, 12, 13, 14, 15, 16, 17] (by decide +kernel) (by decide +kernel)
set_option maxRecDepth 20000 in
theorem gX4_othersFrom_X4_come : GoodIn wsX4_othersFrom (wsV RX4 70 RX4 yX4_come wsX4_come) := goodIn_app (goodIn_of _ (by decide +kernel)) ggX4_othersFrom_X4_come
theorem dX4_othersFrom_0 : decode cX4_othersFrom 0 = .ok (.iconst 0, 1) := by decide +kernel
theorem dX4_othersFrom_1 : decode cX4_othersFrom 1 = .ok (.istore_n 3, 1) := by decide +kernel
theorem dX4_othersFrom_2 : decode cX4_othersFrom 2 = .ok (.iconst 0, 1) := by decide +kernel
theorem dX4_othersFrom_3 : decode cX4_othersFrom 3 = .ok (.istore 4, 2) := by decide +kernel
theorem dX4_othersFrom_5 : decode cX4_othersFrom 5 = .ok (.iload 4, 2) := by decide +kernel
theorem dX4_othersFrom_7 : decode cX4_othersFrom 7 = .ok (.aload_n 0, 1) := by decide +kernel
theorem dX4_othersFrom_8 : decode cX4_othersFrom 8 = .ok (.getfield 28, 3) := by decide +kernel
theorem dX4_othersFrom_11 : decode cX4_othersFrom 11 = .ok (.if_icmp .ge 29, 3) := by decide +kernel
theorem dX4_othersFrom_14 : decode cX4_othersFrom 14 = .ok (.iload 4, 2) := by decide +kernel
theorem dX4_othersFrom_16 : decode cX4_othersFrom 16 = .ok (.iload_n 1, 1) := by decide +kernel
theorem dX4_othersFrom_17 : decode cX4_othersFrom 17 = .ok (.if_icmp .eq 17, 3) := by decide +kernel
theorem dX4_othersFrom_20 : decode cX4_othersFrom 20 = .ok (.aload_n 0, 1) := by decide +kernel
theorem dX4_othersFrom_21 : decode cX4_othersFrom 21 = .ok (.iload_n 1, 1) := by decide +kernel
theorem dX4_othersFrom_22 : decode cX4_othersFrom 22 = .ok (.iload 4, 2) := by decide +kernel
theorem dX4_othersFrom_24 : decode cX4_othersFrom 24 = .ok (.iload_n 2, 1) := by decide +kernel
theorem dX4_othersFrom_25 : decode cX4_othersFrom 25 = .ok (.invokevirtual 70, 3) := by decide +kernel
theorem dX4_othersFrom_28 : decode cX4_othersFrom 28 = .ok (.ifCond .eq 6, 3) := by decide +kernel
theorem dX4_othersFrom_31 : decode cX4_othersFrom 31 = .ok (.iinc 3 1, 3) := by decide +kernel
theorem dX4_othersFrom_34 : decode cX4_othersFrom 34 = .ok (.iinc 4 1, 3) := by decide +kernel
theorem dX4_othersFrom_37 : decode cX4_othersFrom 37 = .ok (.goto (-32), 3) := by decide +kernel
theorem dX4_othersFrom_40 : decode cX4_othersFrom 40 = .ok (.iload_n 3, 1) := by decide +kernel
theorem dX4_othersFrom_41 : decode cX4_othersFrom 41 = .ok (.ireturn, 1) := by decide +kernel
set_option maxRecDepth 20000 in
theorem ggX4_othersTo_X4_come : GoodIn wsX4_othersTo wsX4_come := goodIn_r _ [6, 7, 8, 9, 5, 10, 11, 12, 13, 14, 15, 16, 17] (by decide +kernel) (by decide +kernel)
set_option maxRecDepth 20000 in
theorem gX4_othersTo_X4_come : GoodIn wsX4_othersTo (wsV RX4 70 RX4 yX4_come wsX4_come) := goodIn_app (goodIn_of _ (by decide +kernel)) ggX4_othersTo_X4_come
theorem dX4_othersTo_0 : decode cX4_othersTo 0 = .ok (.iconst 0, 1) := by decide +kernel
theorem dX4_othersTo_1 : decode cX4_othersTo 1 = .ok (.istore_n 2, 1) := by decide +kernel
theorem dX4_othersTo_2 : decode cX4_othersTo 2 = .ok (.iconst 0, 1) := by decide +kernel
theorem dX4_othersTo_3 : decode cX4_othersTo 3 = .ok (.istore_n 3, 1) := by decide +kernel
theorem dX4_othersTo_4 : decode cX4_othersTo 4 = .ok (.iload_n 3, 1) := by decide +kernel
theorem dX4_othersTo_5 : decode cX4_othersTo 5 = .ok (.aload_n 0, 1) := by decide +kernel
theorem dX4_othersTo_6 : decode cX4_othersTo 6 = .ok (.getfield 28, 3) := by decide +kernel
theorem dX4_othersTo_9 : decode cX4_othersTo 9 = .ok (.if_icmp .ge 27, 3) := by decide +kernel
theorem dX4_othersTo_12 : decode cX4_othersTo 12 = .ok (.iload_n 3, 1) := by decide +kernel
theorem dX4_othersTo_13 : decode cX4_othersTo 13 = .ok (.iload_n 1, 1) := by decide +kernel
theorem dX4_othersTo_14 : decode cX4_othersTo 14 = .ok (.if_icmp .eq 16, 3) := by decide +kernel
theorem dX4_othersTo_17 : decode cX4_othersTo 17 = .ok (.aload_n 0, 1) := by decide +kernel
theorem dX4_othersTo_18 : decode cX4_othersTo 18 = .ok (.iload_n 3, 1) := by decide +kernel
theorem dX4_othersTo_19 : decode cX4_othersTo 19 = .ok (.iload_n 1, 1) := by decide +kernel
theorem dX4_othersTo_20 : decode cX4_othersTo 20 = .ok (.iconst 3, 1) := by decide +kernel
theorem dX4_othersTo_21 : decode cX4_othersTo 21 = .ok (.invokevirtual 70, 3) := by decide +kernel
theorem dX4_othersTo_24 : decode cX4_othersTo 24 = .ok (.ifCond .eq 6, 3) := by decide +kernel
theorem dX4_othersTo_27 : decode cX4_othersTo 27 = .ok (.iinc 2 1, 3) := by decide +kernel
theorem dX4_othersTo_30 : decode cX4_othersTo 30 = .ok (.iinc 3 1, 3) := by decide +kernel
theorem dX4_othersTo_33 : decode cX4_othersTo 33 = .ok (.goto (-29), 3) := by decide +kernel
theorem dX4_othersTo_36 : decode cX4_othersTo 36 = .ok (.iload_n 2, 1) := by decide +kernel
theorem dX4_othersTo_37 : decode cX4_othersTo 37 = .ok (.ireturn, 1) := by decide +kernel
theorem dX5_init_0 : decode cX5_init 0 = .ok (.aload_n 0, 1) := by decide +kernel
theorem dX5_init_1 : decode cX5_init 1 = .ok (.invokespecial 3, 3) := by decide +kernel
theorem dX5_init_4 : decode cX5_init 4 = .ok (.aload_n 0, 1) := by decide +kernel
theorem dX5_init_5 : decode cX5_init 5 = .ok (.iconst 4, 1) := by decide +kernel
theorem dX5_init_6 : decode cX5_init 6 = .ok (.newarray .int, 2) := by decide +kernel
theorem dX5_init_8 : decode cX5_init 8 = .ok (.putfield 9, 3) := by decide +kernel
theorem dX5_init_11 : decode cX5_init 11 = .ok (.aload_n 0, 1) := by decide +kernel
theorem dX5_init_12 : decode cX5_init 12 = .ok (.sipush 400, 3) := by decide +kernel
theorem dX5_init_15 : decode cX5_init 15 = .ok (.newarray .int, 2) := by decide +kernel
theorem dX5_init_17 : decode cX5_init 17 = .ok (.putfield 15, 3) := by decide +kernel
theorem dX5_init_20 : decode cX5_init 20 = .ok (.aload_n 0, 1) := by decide +kernel
theorem dX5_init_21 : decode cX5_init 21 = .ok (.bipush 100, 2) := by decide +kernel
theorem dX5_init_23 : decode cX5_init 23 = .ok (.newarray .int, 2) := by decide +kernel
theorem dX5_init_25 : decode cX5_init 25 = .ok (.putfield 18, 3) := by decide +kernel
theorem dX5_init_28 : decode cX5_init 28 = .ok (.aload_n 0, 1) := by decide +kernel
theorem dX5_init_29 : decode cX5_init 29 = .ok (.sipush 10000, 3) := by decide +kernel
theorem dX5_init_32 : decode cX5_init 32 = .ok (.newarray .int, 2) := by decide +kernel
theorem dX5_init_34 : decode cX5_init 34 = .ok (.putfield 21, 3) := by decide +kernel
theorem dX5_init_37 : decode cX5_init 37 = .ok (.return_, 1) := by decide +kernel
set_option maxRecDepth 20000 in
theorem ggX5_forget_J7_fill_53178 : GoodIn wsX5_forget wsJ7_fill_53178 := goodIn_r _ [6] (by decide +kernel) (by decide +kernel)
set_option maxRecDepth 20000 in
theorem gX5_forget_J7_fill_53178 : GoodIn wsX5_forget (va_wsS RX5 24 yJ7_fill_53178 wsJ7_fill_53178) := goodIn_app (goodIn_of _ (by decide +kernel)) ggX5_forget_J7_fill_53178
theorem dX5_forget_0 : decode cX5_forget 0 = .ok (.aload_n 0, 1) := by decide +kernel
theorem dX5_forget_1 : decode cX5_forget 1 = .ok (.getfield 9, 3) := by decide +kernel
theorem dX5_forget_4 : decode cX5_forget 4 = .ok (.iconst (-1), 1) := by decide +kernel
theorem dX5_forget_5 : decode cX5_forget 5 = .ok (.invokestatic 24, 3) := by decide +kernel
theorem dX5_forget_8 : decode cX5_forget 8 = .ok (.aload_n 0, 1) := by decide +kernel
theorem dX5_forget_9 : decode cX5_forget 9 = .ok (.iconst (-1), 1) := by decide +kernel
theorem dX5_forget_10 : decode cX5_forget 10 = .ok (.putfield 30, 3) := by decide +kernel
theorem dX5_forget_13 : decode cX5_forget 13 = .ok (.return_, 1) := by decide +kernel
set_option maxRecDepth 20000 in
theorem ggX5_spreadFrom_X8_at : GoodIn wsX5_spreadFrom wsX8_at := goodIn_r _ [7] (by decide +kernel) (by decide +kernel)
set_option maxRecDepth 20000 in
theorem gX5_spreadFrom_X8_at_n34 : GoodIn wsX5_spreadFrom (wsX8_at) := ggX5_spreadFrom_X8_at
set_option maxRecDepth 20000 in
theorem ggX5_spreadFrom_X8_store : GoodIn wsX5_spreadFrom wsX8_store := goodIn_r _ [9] (by decide +kernel) (by decide +kernel)
set_option maxRecDepth 20000 in
theorem gX5_spreadFrom_X8_store_n38 : GoodIn wsX5_spreadFrom (wsX8_store) := ggX5_spreadFrom_X8_store
set_option maxRecDepth 20000 in
theorem ggX5_spreadFrom_X5_beginSpread : GoodIn wsX5_spreadFrom wsX5_beginSpread := goodIn_r _ [14, 3, 2, 8, 6, 9, 25, 26, 27, 28, 29] (by decide +kernel) (by decide +kernel)
set_option maxRecDepth 20000 in
theorem gX5_spreadFrom_X5_beginSpread : GoodIn wsX5_spreadFrom (wsV RX5 42 RX5 yX5_beginSpread wsX5_beginSpread) := goodIn_app (goodIn_of _ (by decide +kernel)) ggX5_spreadFrom_X5_beginSpread
set_option maxRecDepth 20000 in
theorem ggX5_spreadFrom_X4_come : GoodIn wsX5_spreadFrom wsX4_come := goodIn_r _ [19, 20, 21, 22, 18, 23, 24, 5, 6, 7, 30, 31, 32] (by decide +kernel) (by decide +kernel)
set_option maxRecDepth 20000 in
theorem gX5_spreadFrom_X4_come : GoodIn wsX5_spreadFrom (wsV RX5 51 RX4 yX4_come wsX4_come) := goodIn_app (goodIn_of _ (by decide +kernel)) ggX5_spreadFrom_X4_come
theorem dX5_spreadFrom_0 : decode cX5_spreadFrom 0 = .ok (.aload_n 0, 1) := by decide +kernel
theorem dX5_spreadFrom_1 : decode cX5_spreadFrom 1 = .ok (.getfield 9, 3) := by decide +kernel
theorem dX5_spreadFrom_4 : decode cX5_spreadFrom 4 = .ok (.iload_n 3, 1) := by decide +kernel
theorem dX5_spreadFrom_5 : decode cX5_spreadFrom 5 = .ok (.invokestatic 34, 3) := by decide +kernel
theorem dX5_spreadFrom_8 : decode cX5_spreadFrom 8 = .ok (.iload_n 2, 1) := by decide +kernel
theorem dX5_spreadFrom_9 : decode cX5_spreadFrom 9 = .ok (.if_icmp .ne 4, 3) := by decide +kernel
theorem dX5_spreadFrom_12 : decode cX5_spreadFrom 12 = .ok (.return_, 1) := by decide +kernel
theorem dX5_spreadFrom_13 : decode cX5_spreadFrom 13 = .ok (.aload_n 0, 1) := by decide +kernel
theorem dX5_spreadFrom_14 : decode cX5_spreadFrom 14 = .ok (.getfield 9, 3) := by decide +kernel
theorem dX5_spreadFrom_17 : decode cX5_spreadFrom 17 = .ok (.iload_n 3, 1) := by decide +kernel
theorem dX5_spreadFrom_18 : decode cX5_spreadFrom 18 = .ok (.iload_n 2, 1) := by decide +kernel
theorem dX5_spreadFrom_19 : decode cX5_spreadFrom 19 = .ok (.invokestatic 38, 3) := by decide +kernel
theorem dX5_spreadFrom_22 : decode cX5_spreadFrom 22 = .ok (.aload_n 0, 1) := by decide +kernel
theorem dX5_spreadFrom_23 : decode cX5_spreadFrom 23 = .ok (.iload_n 2, 1) := by decide +kernel
theorem dX5_spreadFrom_24 : decode cX5_spreadFrom 24 = .ok (.iload_n 3, 1) := by decide +kernel
theorem dX5_spreadFrom_25 : decode cX5_spreadFrom 25 = .ok (.invokevirtual 42, 3) := by decide +kernel
theorem dX5_spreadFrom_28 : decode cX5_spreadFrom 28 = .ok (.iload_n 3, 1) := by decide +kernel
theorem dX5_spreadFrom_29 : decode cX5_spreadFrom 29 = .ok (.bipush 100, 2) := by decide +kernel
theorem dX5_spreadFrom_31 : decode cX5_spreadFrom 31 = .ok (.imul, 1) := by decide +kernel
theorem dX5_spreadFrom_32 : decode cX5_spreadFrom 32 = .ok (.istore 4, 2) := by decide +kernel
theorem dX5_spreadFrom_34 : decode cX5_spreadFrom 34 = .ok (.iconst 1, 1) := by decide +kernel
theorem dX5_spreadFrom_35 : decode cX5_spreadFrom 35 = .ok (.istore 5, 2) := by decide +kernel
theorem dX5_spreadFrom_37 : decode cX5_spreadFrom 37 = .ok (.iconst 0, 1) := by decide +kernel
theorem dX5_spreadFrom_38 : decode cX5_spreadFrom 38 = .ok (.istore 6, 2) := by decide +kernel
theorem dX5_spreadFrom_40 : decode cX5_spreadFrom 40 = .ok (.iload 6, 2) := by decide +kernel
theorem dX5_spreadFrom_42 : decode cX5_spreadFrom 42 = .ok (.iload 5, 2) := by decide +kernel
theorem dX5_spreadFrom_44 : decode cX5_spreadFrom 44 = .ok (.if_icmp .ge 117, 3) := by decide +kernel
theorem dX5_spreadFrom_47 : decode cX5_spreadFrom 47 = .ok (.iload 6, 2) := by decide +kernel
theorem dX5_spreadFrom_49 : decode cX5_spreadFrom 49 = .ok (.bipush 100, 2) := by decide +kernel
theorem dX5_spreadFrom_51 : decode cX5_spreadFrom 51 = .ok (.if_icmp .ge 110, 3) := by decide +kernel
theorem dX5_spreadFrom_54 : decode cX5_spreadFrom 54 = .ok (.aload_n 0, 1) := by decide +kernel
theorem dX5_spreadFrom_55 : decode cX5_spreadFrom 55 = .ok (.getfield 18, 3) := by decide +kernel
theorem dX5_spreadFrom_58 : decode cX5_spreadFrom 58 = .ok (.iload 6, 2) := by decide +kernel
theorem dX5_spreadFrom_60 : decode cX5_spreadFrom 60 = .ok (.invokestatic 34, 3) := by decide +kernel
theorem dX5_spreadFrom_63 : decode cX5_spreadFrom 63 = .ok (.istore 7, 2) := by decide +kernel
theorem dX5_spreadFrom_65 : decode cX5_spreadFrom 65 = .ok (.aload_n 0, 1) := by decide +kernel
theorem dX5_spreadFrom_66 : decode cX5_spreadFrom 66 = .ok (.getfield 15, 3) := by decide +kernel
theorem dX5_spreadFrom_69 : decode cX5_spreadFrom 69 = .ok (.iload 4, 2) := by decide +kernel
theorem dX5_spreadFrom_71 : decode cX5_spreadFrom 71 = .ok (.iload 7, 2) := by decide +kernel
theorem dX5_spreadFrom_73 : decode cX5_spreadFrom 73 = .ok (.iadd, 1) := by decide +kernel
theorem dX5_spreadFrom_74 : decode cX5_spreadFrom 74 = .ok (.invokestatic 34, 3) := by decide +kernel
theorem dX5_spreadFrom_77 : decode cX5_spreadFrom 77 = .ok (.iconst 1, 1) := by decide +kernel
theorem dX5_spreadFrom_78 : decode cX5_spreadFrom 78 = .ok (.iadd, 1) := by decide +kernel
theorem dX5_spreadFrom_79 : decode cX5_spreadFrom 79 = .ok (.istore 8, 2) := by decide +kernel
theorem dX5_spreadFrom_81 : decode cX5_spreadFrom 81 = .ok (.iconst 0, 1) := by decide +kernel
theorem dX5_spreadFrom_82 : decode cX5_spreadFrom 82 = .ok (.istore 9, 2) := by decide +kernel
theorem dX5_spreadFrom_84 : decode cX5_spreadFrom 84 = .ok (.iload 9, 2) := by decide +kernel
theorem dX5_spreadFrom_86 : decode cX5_spreadFrom 86 = .ok (.aload_n 1, 1) := by decide +kernel
theorem dX5_spreadFrom_87 : decode cX5_spreadFrom 87 = .ok (.getfield 46, 3) := by decide +kernel
theorem dX5_spreadFrom_90 : decode cX5_spreadFrom 90 = .ok (.if_icmp .ge 65, 3) := by decide +kernel
theorem dX5_spreadFrom_93 : decode cX5_spreadFrom 93 = .ok (.aload_n 0, 1) := by decide +kernel
theorem dX5_spreadFrom_94 : decode cX5_spreadFrom 94 = .ok (.getfield 15, 3) := by decide +kernel
theorem dX5_spreadFrom_97 : decode cX5_spreadFrom 97 = .ok (.iload 4, 2) := by decide +kernel
theorem dX5_spreadFrom_99 : decode cX5_spreadFrom 99 = .ok (.iload 9, 2) := by decide +kernel
theorem dX5_spreadFrom_101 : decode cX5_spreadFrom 101 = .ok (.iadd, 1) := by decide +kernel
theorem dX5_spreadFrom_102 : decode cX5_spreadFrom 102 = .ok (.invokestatic 34, 3) := by decide +kernel
theorem dX5_spreadFrom_105 : decode cX5_spreadFrom 105 = .ok (.iconst (-1), 1) := by decide +kernel
theorem dX5_spreadFrom_106 : decode cX5_spreadFrom 106 = .ok (.if_icmp .ne 43, 3) := by decide +kernel
theorem dX5_spreadFrom_109 : decode cX5_spreadFrom 109 = .ok (.aload_n 1, 1) := by decide +kernel
theorem dX5_spreadFrom_110 : decode cX5_spreadFrom 110 = .ok (.iload 7, 2) := by decide +kernel
theorem dX5_spreadFrom_112 : decode cX5_spreadFrom 112 = .ok (.iload 9, 2) := by decide +kernel
theorem dX5_spreadFrom_114 : decode cX5_spreadFrom 114 = .ok (.iload_n 3, 1) := by decide +kernel
theorem dX5_spreadFrom_115 : decode cX5_spreadFrom 115 = .ok (.invokevirtual 51, 3) := by decide +kernel
theorem dX5_spreadFrom_118 : decode cX5_spreadFrom 118 = .ok (.ifCond .eq 31, 3) := by decide +kernel
theorem dX5_spreadFrom_121 : decode cX5_spreadFrom 121 = .ok (.aload_n 0, 1) := by decide +kernel
theorem dX5_spreadFrom_122 : decode cX5_spreadFrom 122 = .ok (.getfield 15, 3) := by decide +kernel
theorem dX5_spreadFrom_125 : decode cX5_spreadFrom 125 = .ok (.iload 4, 2) := by decide +kernel
theorem dX5_spreadFrom_127 : decode cX5_spreadFrom 127 = .ok (.iload 9, 2) := by decide +kernel
theorem dX5_spreadFrom_129 : decode cX5_spreadFrom 129 = .ok (.iadd, 1) := by decide +kernel
theorem dX5_spreadFrom_130 : decode cX5_spreadFrom 130 = .ok (.iload 8, 2) := by decide +kernel
theorem dX5_spreadFrom_132 : decode cX5_spreadFrom 132 = .ok (.invokestatic 38, 3) := by decide +kernel
theorem dX5_spreadFrom_135 : decode cX5_spreadFrom 135 = .ok (.aload_n 0, 1) := by decide +kernel
theorem dX5_spreadFrom_136 : decode cX5_spreadFrom 136 = .ok (.getfield 18, 3) := by decide +kernel
theorem dX5_spreadFrom_139 : decode cX5_spreadFrom 139 = .ok (.iload 5, 2) := by decide +kernel
theorem dX5_spreadFrom_141 : decode cX5_spreadFrom 141 = .ok (.iload 9, 2) := by decide +kernel
theorem dX5_spreadFrom_143 : decode cX5_spreadFrom 143 = .ok (.invokestatic 38, 3) := by decide +kernel
theorem dX5_spreadFrom_146 : decode cX5_spreadFrom 146 = .ok (.iinc 5 1, 3) := by decide +kernel
theorem dX5_spreadFrom_149 : decode cX5_spreadFrom 149 = .ok (.iinc 9 1, 3) := by decide +kernel
theorem dX5_spreadFrom_152 : decode cX5_spreadFrom 152 = .ok (.goto (-68), 3) := by decide +kernel
theorem dX5_spreadFrom_155 : decode cX5_spreadFrom 155 = .ok (.iinc 6 1, 3) := by decide +kernel
theorem dX5_spreadFrom_158 : decode cX5_spreadFrom 158 = .ok (.goto (-118), 3) := by decide +kernel
theorem dX5_spreadFrom_161 : decode cX5_spreadFrom 161 = .ok (.return_, 1) := by decide +kernel
set_option maxRecDepth 20000 in
theorem ggX5_beginSpread_X8_store : GoodIn wsX5_beginSpread wsX8_store := goodIn_r _ [5] (by decide +kernel) (by decide +kernel)
set_option maxRecDepth 20000 in
theorem gX5_beginSpread_X8_store_n38 : GoodIn wsX5_beginSpread (wsX8_store) := ggX5_beginSpread_X8_store
theorem dX5_beginSpread_0 : decode cX5_beginSpread 0 = .ok (.iload_n 2, 1) := by decide +kernel
theorem dX5_beginSpread_1 : decode cX5_beginSpread 1 = .ok (.bipush 100, 2) := by decide +kernel
theorem dX5_beginSpread_3 : decode cX5_beginSpread 3 = .ok (.imul, 1) := by decide +kernel
theorem dX5_beginSpread_4 : decode cX5_beginSpread 4 = .ok (.istore_n 3, 1) := by decide +kernel
theorem dX5_beginSpread_5 : decode cX5_beginSpread 5 = .ok (.iconst 0, 1) := by decide +kernel
theorem dX5_beginSpread_6 : decode cX5_beginSpread 6 = .ok (.istore 4, 2) := by decide +kernel
theorem dX5_beginSpread_8 : decode cX5_beginSpread 8 = .ok (.iload 4, 2) := by decide +kernel
theorem dX5_beginSpread_10 : decode cX5_beginSpread 10 = .ok (.bipush 100, 2) := by decide +kernel
theorem dX5_beginSpread_12 : decode cX5_beginSpread 12 = .ok (.if_icmp .ge 21, 3) := by decide +kernel
theorem dX5_beginSpread_15 : decode cX5_beginSpread 15 = .ok (.aload_n 0, 1) := by decide +kernel
theorem dX5_beginSpread_16 : decode cX5_beginSpread 16 = .ok (.getfield 15, 3) := by decide +kernel
theorem dX5_beginSpread_19 : decode cX5_beginSpread 19 = .ok (.iload_n 3, 1) := by decide +kernel
theorem dX5_beginSpread_20 : decode cX5_beginSpread 20 = .ok (.iload 4, 2) := by decide +kernel
theorem dX5_beginSpread_22 : decode cX5_beginSpread 22 = .ok (.iadd, 1) := by decide +kernel
theorem dX5_beginSpread_23 : decode cX5_beginSpread 23 = .ok (.iconst (-1), 1) := by decide +kernel
theorem dX5_beginSpread_24 : decode cX5_beginSpread 24 = .ok (.invokestatic 38, 3) := by decide +kernel
theorem dX5_beginSpread_27 : decode cX5_beginSpread 27 = .ok (.iinc 4 1, 3) := by decide +kernel
theorem dX5_beginSpread_30 : decode cX5_beginSpread 30 = .ok (.goto (-22), 3) := by decide +kernel
theorem dX5_beginSpread_33 : decode cX5_beginSpread 33 = .ok (.aload_n 0, 1) := by decide +kernel
theorem dX5_beginSpread_34 : decode cX5_beginSpread 34 = .ok (.getfield 15, 3) := by decide +kernel
theorem dX5_beginSpread_37 : decode cX5_beginSpread 37 = .ok (.iload_n 3, 1) := by decide +kernel
theorem dX5_beginSpread_38 : decode cX5_beginSpread 38 = .ok (.iload_n 1, 1) := by decide +kernel
theorem dX5_beginSpread_39 : decode cX5_beginSpread 39 = .ok (.iadd, 1) := by decide +kernel
theorem dX5_beginSpread_40 : decode cX5_beginSpread 40 = .ok (.iconst 0, 1) := by decide +kernel
theorem dX5_beginSpread_41 : decode cX5_beginSpread 41 = .ok (.invokestatic 38, 3) := by decide +kernel
theorem dX5_beginSpread_44 : decode cX5_beginSpread 44 = .ok (.aload_n 0, 1) := by decide +kernel
theorem dX5_beginSpread_45 : decode cX5_beginSpread 45 = .ok (.getfield 18, 3) := by decide +kernel
theorem dX5_beginSpread_48 : decode cX5_beginSpread 48 = .ok (.iconst 0, 1) := by decide +kernel
theorem dX5_beginSpread_49 : decode cX5_beginSpread 49 = .ok (.iload_n 1, 1) := by decide +kernel
theorem dX5_beginSpread_50 : decode cX5_beginSpread 50 = .ok (.invokestatic 38, 3) := by decide +kernel
theorem dX5_beginSpread_53 : decode cX5_beginSpread 53 = .ok (.return_, 1) := by decide +kernel
set_option maxRecDepth 20000 in
theorem ggX5_leapsBySpreading_X8_at : GoodIn wsX5_leapsBySpreading wsX8_at := goodIn_r _ [4] (by decide +kernel) (by decide +kernel)
set_option maxRecDepth 20000 in
theorem gX5_leapsBySpreading_X8_at_n34 : GoodIn wsX5_leapsBySpreading (wsX8_at) := ggX5_leapsBySpreading_X8_at
theorem dX5_leapsBySpreading_0 : decode cX5_leapsBySpreading 0 = .ok (.aload_n 0, 1) := by decide +kernel
theorem dX5_leapsBySpreading_1 : decode cX5_leapsBySpreading 1 = .ok (.getfield 15, 3) := by decide +kernel
theorem dX5_leapsBySpreading_4 : decode cX5_leapsBySpreading 4 = .ok (.iload_n 2, 1) := by decide +kernel
theorem dX5_leapsBySpreading_5 : decode cX5_leapsBySpreading 5 = .ok (.bipush 100, 2) := by decide +kernel
theorem dX5_leapsBySpreading_7 : decode cX5_leapsBySpreading 7 = .ok (.imul, 1) := by decide +kernel
theorem dX5_leapsBySpreading_8 : decode cX5_leapsBySpreading 8 = .ok (.iload_n 1, 1) := by decide +kernel
theorem dX5_leapsBySpreading_9 : decode cX5_leapsBySpreading 9 = .ok (.iadd, 1) := by decide +kernel
theorem dX5_leapsBySpreading_10 : decode cX5_leapsBySpreading 10 = .ok (.invokestatic 34, 3) := by decide +kernel
theorem dX5_leapsBySpreading_13 : decode cX5_leapsBySpreading 13 = .ok (.ireturn, 1) := by decide +kernel
set_option maxRecDepth 20000 in
theorem ggX5_makeTable_X5_beginTable : GoodIn wsX5_makeTable wsX5_beginTable := goodIn_r _ [7, 2, 8, 9, 10, 11, 12, 13, 14, 15, 16, 17, 18, 19, 20, 21, 22, 23, 33, 34, 35, 28, 29, 30, 31, 32] (by decide +kernel) (by decide +kernel)
set_option maxRecDepth 20000 in
theorem gX5_makeTable_X5_beginTable : GoodIn wsX5_makeTable (wsV RX5 55 RX5 yX5_beginTable wsX5_beginTable) := goodIn_app (goodIn_of _ (by decide +kernel)) ggX5_makeTable_X5_beginTable
set_option maxRecDepth 20000 in
theorem ggX5_makeTable_X5_allowBetween : GoodIn wsX5_makeTable wsX5_allowBetween := goodIn_r _ [27, 8, 19, 20, 21, 22, 23, 28, 29, 30, 31, 32] (by decide +kernel) (by decide +kernel)
set_option maxRecDepth 20000 in
theorem gX5_makeTable_X5_allowBetween : GoodIn wsX5_makeTable (wsV RX5 59 RX5 yX5_allowBetween wsX5_allowBetween) := goodIn_app (goodIn_of _ (by decide +kernel)) ggX5_makeTable_X5_allowBetween
theorem dX5_makeTable_0 : decode cX5_makeTable 0 = .ok (.aload_n 0, 1) := by decide +kernel
theorem dX5_makeTable_1 : decode cX5_makeTable 1 = .ok (.getfield 30, 3) := by decide +kernel
theorem dX5_makeTable_4 : decode cX5_makeTable 4 = .ok (.iload_n 2, 1) := by decide +kernel
theorem dX5_makeTable_5 : decode cX5_makeTable 5 = .ok (.if_icmp .ne 4, 3) := by decide +kernel
theorem dX5_makeTable_8 : decode cX5_makeTable 8 = .ok (.return_, 1) := by decide +kernel
theorem dX5_makeTable_9 : decode cX5_makeTable 9 = .ok (.aload_n 0, 1) := by decide +kernel
theorem dX5_makeTable_10 : decode cX5_makeTable 10 = .ok (.iload_n 2, 1) := by decide +kernel
theorem dX5_makeTable_11 : decode cX5_makeTable 11 = .ok (.putfield 30, 3) := by decide +kernel
theorem dX5_makeTable_14 : decode cX5_makeTable 14 = .ok (.aload_n 0, 1) := by decide +kernel
theorem dX5_makeTable_15 : decode cX5_makeTable 15 = .ok (.aload_n 1, 1) := by decide +kernel
theorem dX5_makeTable_16 : decode cX5_makeTable 16 = .ok (.iload_n 2, 1) := by decide +kernel
theorem dX5_makeTable_17 : decode cX5_makeTable 17 = .ok (.invokevirtual 55, 3) := by decide +kernel
theorem dX5_makeTable_20 : decode cX5_makeTable 20 = .ok (.iconst 0, 1) := by decide +kernel
theorem dX5_makeTable_21 : decode cX5_makeTable 21 = .ok (.istore_n 3, 1) := by decide +kernel
theorem dX5_makeTable_22 : decode cX5_makeTable 22 = .ok (.iload_n 3, 1) := by decide +kernel
theorem dX5_makeTable_23 : decode cX5_makeTable 23 = .ok (.aload_n 1, 1) := by decide +kernel
theorem dX5_makeTable_24 : decode cX5_makeTable 24 = .ok (.getfield 46, 3) := by decide +kernel
theorem dX5_makeTable_27 : decode cX5_makeTable 27 = .ok (.if_icmp .ge 18, 3) := by decide +kernel
theorem dX5_makeTable_30 : decode cX5_makeTable 30 = .ok (.aload_n 0, 1) := by decide +kernel
theorem dX5_makeTable_31 : decode cX5_makeTable 31 = .ok (.iload_n 3, 1) := by decide +kernel
theorem dX5_makeTable_32 : decode cX5_makeTable 32 = .ok (.aload_n 1, 1) := by decide +kernel
theorem dX5_makeTable_33 : decode cX5_makeTable 33 = .ok (.getfield 46, 3) := by decide +kernel
theorem dX5_makeTable_36 : decode cX5_makeTable 36 = .ok (.invokevirtual 59, 3) := by decide +kernel
theorem dX5_makeTable_39 : decode cX5_makeTable 39 = .ok (.iinc 3 1, 3) := by decide +kernel
theorem dX5_makeTable_42 : decode cX5_makeTable 42 = .ok (.goto (-20), 3) := by decide +kernel
theorem dX5_makeTable_45 : decode cX5_makeTable 45 = .ok (.return_, 1) := by decide +kernel
set_option maxRecDepth 20000 in
theorem ggX5_leapsByTable_X8_at : GoodIn wsX5_leapsByTable wsX8_at := goodIn_r _ [4] (by decide +kernel) (by decide +kernel)
set_option maxRecDepth 20000 in
theorem gX5_leapsByTable_X8_at_n34 : GoodIn wsX5_leapsByTable (wsX8_at) := ggX5_leapsByTable_X8_at
theorem dX5_leapsByTable_0 : decode cX5_leapsByTable 0 = .ok (.aload_n 0, 1) := by decide +kernel
theorem dX5_leapsByTable_1 : decode cX5_leapsByTable 1 = .ok (.getfield 21, 3) := by decide +kernel
theorem dX5_leapsByTable_4 : decode cX5_leapsByTable 4 = .ok (.iload_n 1, 1) := by decide +kernel
theorem dX5_leapsByTable_5 : decode cX5_leapsByTable 5 = .ok (.bipush 100, 2) := by decide +kernel
theorem dX5_leapsByTable_7 : decode cX5_leapsByTable 7 = .ok (.imul, 1) := by decide +kernel
theorem dX5_leapsByTable_8 : decode cX5_leapsByTable 8 = .ok (.iload_n 2, 1) := by decide +kernel
theorem dX5_leapsByTable_9 : decode cX5_leapsByTable 9 = .ok (.iadd, 1) := by decide +kernel
theorem dX5_leapsByTable_10 : decode cX5_leapsByTable 10 = .ok (.invokestatic 34, 3) := by decide +kernel
theorem dX5_leapsByTable_13 : decode cX5_leapsByTable 13 = .ok (.ireturn, 1) := by decide +kernel
set_option maxRecDepth 20000 in
theorem ggX5_beginTable_X4_come : GoodIn wsX5_beginTable wsX4_come := goodIn_r _ [7, 8, 9, 10, 6, 11, 12, 13, 14, 15, 18, 19, 20] (by decide +kernel) (by decide +kernel)
set_option maxRecDepth 20000 in
theorem gX5_beginTable_X4_come : GoodIn wsX5_beginTable (wsV RX5 51 RX4 yX4_come wsX4_come) := goodIn_app (goodIn_of _ (by decide +kernel)) ggX5_beginTable_X4_come
set_option maxRecDepth 20000 in
theorem ggX5_beginTable_X8_store : GoodIn wsX5_beginTable wsX8_store := goodIn_r _ [17] (by decide +kernel) (by decide +kernel)
set_option maxRecDepth 20000 in
theorem gX5_beginTable_X8_store_n38 : GoodIn wsX5_beginTable (wsX8_store) := ggX5_beginTable_X8_store
theorem dX5_beginTable_0 : decode cX5_beginTable 0 = .ok (.iconst 0, 1) := by decide +kernel
theorem dX5_beginTable_1 : decode cX5_beginTable 1 = .ok (.istore_n 3, 1) := by decide +kernel
theorem dX5_beginTable_2 : decode cX5_beginTable 2 = .ok (.iload_n 3, 1) := by decide +kernel
theorem dX5_beginTable_3 : decode cX5_beginTable 3 = .ok (.aload_n 1, 1) := by decide +kernel
theorem dX5_beginTable_4 : decode cX5_beginTable 4 = .ok (.getfield 46, 3) := by decide +kernel
theorem dX5_beginTable_7 : decode cX5_beginTable 7 = .ok (.if_icmp .ge 71, 3) := by decide +kernel
theorem dX5_beginTable_10 : decode cX5_beginTable 10 = .ok (.iconst 0, 1) := by decide +kernel
theorem dX5_beginTable_11 : decode cX5_beginTable 11 = .ok (.istore 4, 2) := by decide +kernel
theorem dX5_beginTable_13 : decode cX5_beginTable 13 = .ok (.iload 4, 2) := by decide +kernel
theorem dX5_beginTable_15 : decode cX5_beginTable 15 = .ok (.aload_n 1, 1) := by decide +kernel
theorem dX5_beginTable_16 : decode cX5_beginTable 16 = .ok (.getfield 46, 3) := by decide +kernel
theorem dX5_beginTable_19 : decode cX5_beginTable 19 = .ok (.if_icmp .ge 53, 3) := by decide +kernel
theorem dX5_beginTable_22 : decode cX5_beginTable 22 = .ok (.aload_n 1, 1) := by decide +kernel
theorem dX5_beginTable_23 : decode cX5_beginTable 23 = .ok (.iload_n 3, 1) := by decide +kernel
theorem dX5_beginTable_24 : decode cX5_beginTable 24 = .ok (.iload 4, 2) := by decide +kernel
theorem dX5_beginTable_26 : decode cX5_beginTable 26 = .ok (.iload_n 2, 1) := by decide +kernel
theorem dX5_beginTable_27 : decode cX5_beginTable 27 = .ok (.invokevirtual 51, 3) := by decide +kernel
theorem dX5_beginTable_30 : decode cX5_beginTable 30 = .ok (.ifCond .eq 7, 3) := by decide +kernel
theorem dX5_beginTable_33 : decode cX5_beginTable 33 = .ok (.iconst 1, 1) := by decide +kernel
theorem dX5_beginTable_34 : decode cX5_beginTable 34 = .ok (.goto 4, 3) := by decide +kernel
theorem dX5_beginTable_37 : decode cX5_beginTable 37 = .ok (.iconst (-1), 1) := by decide +kernel
theorem dX5_beginTable_38 : decode cX5_beginTable 38 = .ok (.istore 5, 2) := by decide +kernel
theorem dX5_beginTable_40 : decode cX5_beginTable 40 = .ok (.aload_n 0, 1) := by decide +kernel
theorem dX5_beginTable_41 : decode cX5_beginTable 41 = .ok (.getfield 21, 3) := by decide +kernel
theorem dX5_beginTable_44 : decode cX5_beginTable 44 = .ok (.iload_n 3, 1) := by decide +kernel
theorem dX5_beginTable_45 : decode cX5_beginTable 45 = .ok (.bipush 100, 2) := by decide +kernel
theorem dX5_beginTable_47 : decode cX5_beginTable 47 = .ok (.imul, 1) := by decide +kernel
theorem dX5_beginTable_48 : decode cX5_beginTable 48 = .ok (.iload 4, 2) := by decide +kernel
theorem dX5_beginTable_50 : decode cX5_beginTable 50 = .ok (.iadd, 1) := by decide +kernel
theorem dX5_beginTable_51 : decode cX5_beginTable 51 = .ok (.iload_n 3, 1) := by decide +kernel
theorem dX5_beginTable_52 : decode cX5_beginTable 52 = .ok (.iload 4, 2) := by decide +kernel
theorem dX5_beginTable_54 : decode cX5_beginTable 54 = .ok (.if_icmp .ne 7, 3) := by decide +kernel
theorem dX5_beginTable_57 : decode cX5_beginTable 57 = .ok (.iconst 0, 1) := by decide +kernel
theorem dX5_beginTable_58 : decode cX5_beginTable 58 = .ok (.goto 5, 3) := by decide +kernel
theorem dX5_beginTable_61 : decode cX5_beginTable 61 = .ok (.iload 5, 2) := by decide +kernel
theorem dX5_beginTable_63 : decode cX5_beginTable 63 = .ok (.invokestatic 38, 3) := by decide +kernel
theorem dX5_beginTable_66 : decode cX5_beginTable 66 = .ok (.iinc 4 1, 3) := by decide +kernel
theorem dX5_beginTable_69 : decode cX5_beginTable 69 = .ok (.goto (-56), 3) := by decide +kernel
theorem dX5_beginTable_72 : decode cX5_beginTable 72 = .ok (.iinc 3 1, 3) := by decide +kernel
theorem dX5_beginTable_75 : decode cX5_beginTable 75 = .ok (.goto (-73), 3) := by decide +kernel
theorem dX5_beginTable_78 : decode cX5_beginTable 78 = .ok (.return_, 1) := by decide +kernel
set_option maxRecDepth 20000 in
theorem ggX5_allowBetween_X8_at : GoodIn wsX5_allowBetween wsX8_at := goodIn_r _ [4] (by decide +kernel) (by decide +kernel)
set_option maxRecDepth 20000 in
theorem gX5_allowBetween_X8_at_n34 : GoodIn wsX5_allowBetween (wsX8_at) := ggX5_allowBetween_X8_at
set_option maxRecDepth 20000 in
theorem ggX5_allowBetween_X8_store : GoodIn wsX5_allowBetween wsX8_store := goodIn_r _ [6] (by decide +kernel) (by decide +kernel)
set_option maxRecDepth 20000 in
theorem gX5_allowBetween_X8_store_n38 : GoodIn wsX5_allowBetween (wsX8_store) := ggX5_allowBetween_X8_store
theorem dX5_allowBetween_0 : decode cX5_allowBetween 0 = .ok (.iconst 0, 1) := by decide +kernel
theorem dX5_allowBetween_1 : decode cX5_allowBetween 1 = .ok (.istore_n 3, 1) := by decide +kernel
theorem dX5_allowBetween_2 : decode cX5_allowBetween 2 = .ok (.iload_n 3, 1) := by decide +kernel
theorem dX5_allowBetween_3 : decode cX5_allowBetween 3 = .ok (.iload_n 2, 1) := by decide +kernel
theorem dX5_allowBetween_4 : decode cX5_allowBetween 4 = .ok (.if_icmp .ge 118, 3) := by decide +kernel
theorem dX5_allowBetween_7 : decode cX5_allowBetween 7 = .ok (.aload_n 0, 1) := by decide +kernel
theorem dX5_allowBetween_8 : decode cX5_allowBetween 8 = .ok (.getfield 21, 3) := by decide +kernel
theorem dX5_allowBetween_11 : decode cX5_allowBetween 11 = .ok (.iload_n 3, 1) := by decide +kernel
theorem dX5_allowBetween_12 : decode cX5_allowBetween 12 = .ok (.bipush 100, 2) := by decide +kernel
theorem dX5_allowBetween_14 : decode cX5_allowBetween 14 = .ok (.imul, 1) := by decide +kernel
theorem dX5_allowBetween_15 : decode cX5_allowBetween 15 = .ok (.iload_n 1, 1) := by decide +kernel
theorem dX5_allowBetween_16 : decode cX5_allowBetween 16 = .ok (.iadd, 1) := by decide +kernel
theorem dX5_allowBetween_17 : decode cX5_allowBetween 17 = .ok (.invokestatic 34, 3) := by decide +kernel
theorem dX5_allowBetween_20 : decode cX5_allowBetween 20 = .ok (.istore 4, 2) := by decide +kernel
theorem dX5_allowBetween_22 : decode cX5_allowBetween 22 = .ok (.iconst 0, 1) := by decide +kernel
theorem dX5_allowBetween_23 : decode cX5_allowBetween 23 = .ok (.istore 5, 2) := by decide +kernel
theorem dX5_allowBetween_25 : decode cX5_allowBetween 25 = .ok (.iload 5, 2) := by decide +kernel
theorem dX5_allowBetween_27 : decode cX5_allowBetween 27 = .ok (.iload_n 2, 1) := by decide +kernel
theorem dX5_allowBetween_28 : decode cX5_allowBetween 28 = .ok (.if_icmp .ge 88, 3) := by decide +kernel
theorem dX5_allowBetween_31 : decode cX5_allowBetween 31 = .ok (.iload 4, 2) := by decide +kernel
theorem dX5_allowBetween_33 : decode cX5_allowBetween 33 = .ok (.iconst (-1), 1) := by decide +kernel
theorem dX5_allowBetween_34 : decode cX5_allowBetween 34 = .ok (.if_icmp .eq 82, 3) := by decide +kernel
theorem dX5_allowBetween_37 : decode cX5_allowBetween 37 = .ok (.aload_n 0, 1) := by decide +kernel
theorem dX5_allowBetween_38 : decode cX5_allowBetween 38 = .ok (.getfield 21, 3) := by decide +kernel
theorem dX5_allowBetween_41 : decode cX5_allowBetween 41 = .ok (.iload_n 1, 1) := by decide +kernel
theorem dX5_allowBetween_42 : decode cX5_allowBetween 42 = .ok (.bipush 100, 2) := by decide +kernel
theorem dX5_allowBetween_44 : decode cX5_allowBetween 44 = .ok (.imul, 1) := by decide +kernel
theorem dX5_allowBetween_45 : decode cX5_allowBetween 45 = .ok (.iload 5, 2) := by decide +kernel
theorem dX5_allowBetween_47 : decode cX5_allowBetween 47 = .ok (.iadd, 1) := by decide +kernel
theorem dX5_allowBetween_48 : decode cX5_allowBetween 48 = .ok (.invokestatic 34, 3) := by decide +kernel
theorem dX5_allowBetween_51 : decode cX5_allowBetween 51 = .ok (.istore 6, 2) := by decide +kernel
theorem dX5_allowBetween_53 : decode cX5_allowBetween 53 = .ok (.aload_n 0, 1) := by decide +kernel
theorem dX5_allowBetween_54 : decode cX5_allowBetween 54 = .ok (.getfield 21, 3) := by decide +kernel
theorem dX5_allowBetween_57 : decode cX5_allowBetween 57 = .ok (.iload_n 3, 1) := by decide +kernel
theorem dX5_allowBetween_58 : decode cX5_allowBetween 58 = .ok (.bipush 100, 2) := by decide +kernel
theorem dX5_allowBetween_60 : decode cX5_allowBetween 60 = .ok (.imul, 1) := by decide +kernel
theorem dX5_allowBetween_61 : decode cX5_allowBetween 61 = .ok (.iload 5, 2) := by decide +kernel
theorem dX5_allowBetween_63 : decode cX5_allowBetween 63 = .ok (.iadd, 1) := by decide +kernel
theorem dX5_allowBetween_64 : decode cX5_allowBetween 64 = .ok (.invokestatic 34, 3) := by decide +kernel
theorem dX5_allowBetween_67 : decode cX5_allowBetween 67 = .ok (.istore 7, 2) := by decide +kernel
theorem dX5_allowBetween_69 : decode cX5_allowBetween 69 = .ok (.iload 6, 2) := by decide +kernel
theorem dX5_allowBetween_71 : decode cX5_allowBetween 71 = .ok (.iconst (-1), 1) := by decide +kernel
theorem dX5_allowBetween_72 : decode cX5_allowBetween 72 = .ok (.if_icmp .eq 38, 3) := by decide +kernel
theorem dX5_allowBetween_75 : decode cX5_allowBetween 75 = .ok (.iload 7, 2) := by decide +kernel
theorem dX5_allowBetween_77 : decode cX5_allowBetween 77 = .ok (.iconst (-1), 1) := by decide +kernel
theorem dX5_allowBetween_78 : decode cX5_allowBetween 78 = .ok (.if_icmp .eq 13, 3) := by decide +kernel
theorem dX5_allowBetween_81 : decode cX5_allowBetween 81 = .ok (.iload 4, 2) := by decide +kernel
theorem dX5_allowBetween_83 : decode cX5_allowBetween 83 = .ok (.iload 6, 2) := by decide +kernel
theorem dX5_allowBetween_85 : decode cX5_allowBetween 85 = .ok (.iadd, 1) := by decide +kernel
theorem dX5_allowBetween_86 : decode cX5_allowBetween 86 = .ok (.iload 7, 2) := by decide +kernel
theorem dX5_allowBetween_88 : decode cX5_allowBetween 88 = .ok (.if_icmp .ge 22, 3) := by decide +kernel
theorem dX5_allowBetween_91 : decode cX5_allowBetween 91 = .ok (.aload_n 0, 1) := by decide +kernel
theorem dX5_allowBetween_92 : decode cX5_allowBetween 92 = .ok (.getfield 21, 3) := by decide +kernel
theorem dX5_allowBetween_95 : decode cX5_allowBetween 95 = .ok (.iload_n 3, 1) := by decide +kernel
theorem dX5_allowBetween_96 : decode cX5_allowBetween 96 = .ok (.bipush 100, 2) := by decide +kernel
theorem dX5_allowBetween_98 : decode cX5_allowBetween 98 = .ok (.imul, 1) := by decide +kernel
theorem dX5_allowBetween_99 : decode cX5_allowBetween 99 = .ok (.iload 5, 2) := by decide +kernel
theorem dX5_allowBetween_101 : decode cX5_allowBetween 101 = .ok (.iadd, 1) := by decide +kernel
theorem dX5_allowBetween_102 : decode cX5_allowBetween 102 = .ok (.iload 4, 2) := by decide +kernel
theorem dX5_allowBetween_104 : decode cX5_allowBetween 104 = .ok (.iload 6, 2) := by decide +kernel
theorem dX5_allowBetween_106 : decode cX5_allowBetween 106 = .ok (.iadd, 1) := by decide +kernel
theorem dX5_allowBetween_107 : decode cX5_allowBetween 107 = .ok (.invokestatic 38, 3) := by decide +kernel
theorem dX5_allowBetween_110 : decode cX5_allowBetween 110 = .ok (.iinc 5 1, 3) := by decide +kernel
theorem dX5_allowBetween_113 : decode cX5_allowBetween 113 = .ok (.goto (-88), 3) := by decide +kernel
theorem dX5_allowBetween_116 : decode cX5_allowBetween 116 = .ok (.iinc 3 1, 3) := by decide +kernel
theorem dX5_allowBetween_119 : decode cX5_allowBetween 119 = .ok (.goto (-117), 3) := by decide +kernel
theorem dX5_allowBetween_122 : decode cX5_allowBetween 122 = .ok (.return_, 1) := by decide +kernel
set_option maxRecDepth 20000 in
theorem ggX6_init_X7_init : GoodIn wsX6_init wsX7_init := goodIn_r _ [11, 12, 2, 3, 13, 14, 15, 18, 19, 20, 21, 22, 23, 24] (by decide +kernel) (by decide +kernel)
set_option maxRecDepth 20000 in
theorem gX6_init_X7_init_n21 : GoodIn wsX6_init (wsX7_init) := ggX6_init_X7_init
theorem dX6_init_0 : decode cX6_init 0 = .ok (.aload_n 0, 1) := by decide +kernel
theorem dX6_init_1 : decode cX6_init 1 = .ok (.invokespecial 3, 3) := by decide +kernel
theorem dX6_init_4 : decode cX6_init 4 = .ok (.aload_n 0, 1) := by decide +kernel
theorem dX6_init_5 : decode cX6_init 5 = .ok (.iconst 2, 1) := by decide +kernel
theorem dX6_init_6 : decode cX6_init 6 = .ok (.anewarray 9, 3) := by decide +kernel
theorem dX6_init_9 : decode cX6_init 9 = .ok (.putfield 11, 3) := by decide +kernel
theorem dX6_init_12 : decode cX6_init 12 = .ok (.aload_n 0, 1) := by decide +kernel
theorem dX6_init_13 : decode cX6_init 13 = .ok (.iconst 2, 1) := by decide +kernel
theorem dX6_init_14 : decode cX6_init 14 = .ok (.newarray .boolean, 2) := by decide +kernel
theorem dX6_init_16 : decode cX6_init 16 = .ok (.putfield 17, 3) := by decide +kernel
theorem dX6_init_19 : decode cX6_init 19 = .ok (.iconst 0, 1) := by decide +kernel
theorem dX6_init_20 : decode cX6_init 20 = .ok (.istore_n 1, 1) := by decide +kernel
theorem dX6_init_21 : decode cX6_init 21 = .ok (.iload_n 1, 1) := by decide +kernel
theorem dX6_init_22 : decode cX6_init 22 = .ok (.iconst 2, 1) := by decide +kernel
theorem dX6_init_23 : decode cX6_init 23 = .ok (.if_icmp .ge 22, 3) := by decide +kernel
theorem dX6_init_26 : decode cX6_init 26 = .ok (.aload_n 0, 1) := by decide +kernel
theorem dX6_init_27 : decode cX6_init 27 = .ok (.getfield 11, 3) := by decide +kernel
theorem dX6_init_30 : decode cX6_init 30 = .ok (.iload_n 1, 1) := by decide +kernel
theorem dX6_init_31 : decode cX6_init 31 = .ok (.new 9, 3) := by decide +kernel
theorem dX6_init_34 : decode cX6_init 34 = .ok (.dup, 1) := by decide +kernel
theorem dX6_init_35 : decode cX6_init 35 = .ok (.invokespecial 21, 3) := by decide +kernel
theorem dX6_init_38 : decode cX6_init 38 = .ok (.aastore, 1) := by decide +kernel
theorem dX6_init_39 : decode cX6_init 39 = .ok (.iinc 1 1, 3) := by decide +kernel
theorem dX6_init_42 : decode cX6_init 42 = .ok (.goto (-21), 3) := by decide +kernel
theorem dX6_init_45 : decode cX6_init 45 = .ok (.return_, 1) := by decide +kernel
theorem dX7_init_0 : decode cX7_init 0 = .ok (.aload_n 0, 1) := by decide +kernel
theorem dX7_init_1 : decode cX7_init 1 = .ok (.invokespecial 3, 3) := by decide +kernel
theorem dX7_init_4 : decode cX7_init 4 = .ok (.aload_n 0, 1) := by decide +kernel
theorem dX7_init_5 : decode cX7_init 5 = .ok (.bipush 10, 2) := by decide +kernel
theorem dX7_init_7 : decode cX7_init 7 = .ok (.newarray .int, 2) := by decide +kernel
theorem dX7_init_9 : decode cX7_init 9 = .ok (.putfield 9, 3) := by decide +kernel
theorem dX7_init_12 : decode cX7_init 12 = .ok (.aload_n 0, 1) := by decide +kernel
theorem dX7_init_13 : decode cX7_init 13 = .ok (.iconst 3, 1) := by decide +kernel
theorem dX7_init_14 : decode cX7_init 14 = .ok (.newarray .int, 2) := by decide +kernel
theorem dX7_init_16 : decode cX7_init 16 = .ok (.dup, 1) := by decide +kernel
theorem dX7_init_17 : decode cX7_init 17 = .ok (.iconst 0, 1) := by decide +kernel
theorem dX7_init_18 : decode cX7_init 18 = .ok (.iconst 2, 1) := by decide +kernel
theorem dX7_init_19 : decode cX7_init 19 = .ok (.iastore, 1) := by decide +kernel
theorem dX7_init_20 : decode cX7_init 20 = .ok (.dup, 1) := by decide +kernel
theorem dX7_init_21 : decode cX7_init 21 = .ok (.iconst 1, 1) := by decide +kernel
theorem dX7_init_22 : decode cX7_init 22 = .ok (.iconst 3, 1) := by decide +kernel
theorem dX7_init_23 : decode cX7_init 23 = .ok (.iastore, 1) := by decide +kernel
theorem dX7_init_24 : decode cX7_init 24 = .ok (.dup, 1) := by decide +kernel
theorem dX7_init_25 : decode cX7_init 25 = .ok (.iconst 2, 1) := by decide +kernel
theorem dX7_init_26 : decode cX7_init 26 = .ok (.iconst 1, 1) := by decide +kernel
theorem dX7_init_27 : decode cX7_init 27 = .ok (.iastore, 1) := by decide +kernel
theorem dX7_init_28 : decode cX7_init 28 = .ok (.putfield 15, 3) := by decide +kernel
theorem dX7_init_31 : decode cX7_init 31 = .ok (.return_, 1) := by decide +kernel
theorem dX7_becomeLike_0 : decode cX7_becomeLike 0 = .ok (.aload_n 1, 1) := by decide +kernel
theorem dX7_becomeLike_1 : decode cX7_becomeLike 1 = .ok (.getfield 9, 3) := by decide +kernel
theorem dX7_becomeLike_4 : decode cX7_becomeLike 4 = .ok (.iconst 0, 1) := by decide +kernel
theorem dX7_becomeLike_5 : decode cX7_becomeLike 5 = .ok (.aload_n 0, 1) := by decide +kernel
theorem dX7_becomeLike_6 : decode cX7_becomeLike 6 = .ok (.getfield 9, 3) := by decide +kernel
theorem dX7_becomeLike_9 : decode cX7_becomeLike 9 = .ok (.iconst 0, 1) := by decide +kernel
theorem dX7_becomeLike_10 : decode cX7_becomeLike 10 = .ok (.bipush 10, 2) := by decide +kernel
theorem dX7_becomeLike_12 : decode cX7_becomeLike 12 = .ok (.invokestatic 18, 3) := by decide +kernel
theorem dX7_becomeLike_15 : decode cX7_becomeLike 15 = .ok (.aload_n 1, 1) := by decide +kernel
theorem dX7_becomeLike_16 : decode cX7_becomeLike 16 = .ok (.getfield 15, 3) := by decide +kernel
theorem dX7_becomeLike_19 : decode cX7_becomeLike 19 = .ok (.iconst 0, 1) := by decide +kernel
theorem dX7_becomeLike_20 : decode cX7_becomeLike 20 = .ok (.aload_n 0, 1) := by decide +kernel
theorem dX7_becomeLike_21 : decode cX7_becomeLike 21 = .ok (.getfield 15, 3) := by decide +kernel
theorem dX7_becomeLike_24 : decode cX7_becomeLike 24 = .ok (.iconst 0, 1) := by decide +kernel
theorem dX7_becomeLike_25 : decode cX7_becomeLike 25 = .ok (.iconst 3, 1) := by decide +kernel
theorem dX7_becomeLike_26 : decode cX7_becomeLike 26 = .ok (.invokestatic 18, 3) := by decide +kernel
theorem dX7_becomeLike_29 : decode cX7_becomeLike 29 = .ok (.aload_n 0, 1) := by decide +kernel
theorem dX7_becomeLike_30 : decode cX7_becomeLike 30 = .ok (.aload_n 1, 1) := by decide +kernel
theorem dX7_becomeLike_31 : decode cX7_becomeLike 31 = .ok (.getfield 24, 3) := by decide +kernel
theorem dX7_becomeLike_34 : decode cX7_becomeLike 34 = .ok (.putfield 24, 3) := by decide +kernel
theorem dX7_becomeLike_37 : decode cX7_becomeLike 37 = .ok (.aload_n 0, 1) := by decide +kernel
theorem dX7_becomeLike_38 : decode cX7_becomeLike 38 = .ok (.aload_n 1, 1) := by decide +kernel
theorem dX7_becomeLike_39 : decode cX7_becomeLike 39 = .ok (.getfield 28, 3) := by decide +kernel
theorem dX7_becomeLike_42 : decode cX7_becomeLike 42 = .ok (.putfield 28, 3) := by decide +kernel
theorem dX7_becomeLike_45 : decode cX7_becomeLike 45 = .ok (.aload_n 0, 1) := by decide +kernel
theorem dX7_becomeLike_46 : decode cX7_becomeLike 46 = .ok (.aload_n 1, 1) := by decide +kernel
theorem dX7_becomeLike_47 : decode cX7_becomeLike 47 = .ok (.getfield 31, 3) := by decide +kernel
theorem dX7_becomeLike_50 : decode cX7_becomeLike 50 = .ok (.putfield 31, 3) := by decide +kernel
theorem dX7_becomeLike_53 : decode cX7_becomeLike 53 = .ok (.aload_n 0, 1) := by decide +kernel
theorem dX7_becomeLike_54 : decode cX7_becomeLike 54 = .ok (.aload_n 1, 1) := by decide +kernel
theorem dX7_becomeLike_55 : decode cX7_becomeLike 55 = .ok (.getfield 34, 3) := by decide +kernel
theorem dX7_becomeLike_58 : decode cX7_becomeLike 58 = .ok (.putfield 34, 3) := by decide +kernel
theorem dX7_becomeLike_61 : decode cX7_becomeLike 61 = .ok (.aload_n 0, 1) := by decide +kernel
theorem dX7_becomeLike_62 : decode cX7_becomeLike 62 = .ok (.aload_n 1, 1) := by decide +kernel
theorem dX7_becomeLike_63 : decode cX7_becomeLike 63 = .ok (.getfield 37, 3) := by decide +kernel
theorem dX7_becomeLike_66 : decode cX7_becomeLike 66 = .ok (.putfield 37, 3) := by decide +kernel
theorem dX7_becomeLike_69 : decode cX7_becomeLike 69 = .ok (.return_, 1) := by decide +kernel
theorem dX7_isBlock_0 : decode cX7_isBlock 0 = .ok (.iload_n 1, 1) := by decide +kernel
theorem dX7_isBlock_1 : decode cX7_isBlock 1 = .ok (.ifCond .lt 22, 3) := by decide +kernel
theorem dX7_isBlock_4 : decode cX7_isBlock 4 = .ok (.iload_n 1, 1) := by decide +kernel
theorem dX7_isBlock_5 : decode cX7_isBlock 5 = .ok (.bipush 20, 2) := by decide +kernel
theorem dX7_isBlock_7 : decode cX7_isBlock 7 = .ok (.if_icmp .ge 16, 3) := by decide +kernel
theorem dX7_isBlock_10 : decode cX7_isBlock 10 = .ok (.iload_n 2, 1) := by decide +kernel
theorem dX7_isBlock_11 : decode cX7_isBlock 11 = .ok (.ifCond .lt 12, 3) := by decide +kernel
theorem dX7_isBlock_14 : decode cX7_isBlock 14 = .ok (.iload_n 2, 1) := by decide +kernel
theorem dX7_isBlock_15 : decode cX7_isBlock 15 = .ok (.aload_n 0, 1) := by decide +kernel
theorem dX7_isBlock_16 : decode cX7_isBlock 16 = .ok (.getfield 9, 3) := by decide +kernel
theorem dX7_isBlock_19 : decode cX7_isBlock 19 = .ok (.arraylength, 1) := by decide +kernel
theorem dX7_isBlock_20 : decode cX7_isBlock 20 = .ok (.if_icmp .lt 5, 3) := by decide +kernel
theorem dX7_isBlock_23 : decode cX7_isBlock 23 = .ok (.iconst 1, 1) := by decide +kernel
theorem dX7_isBlock_24 : decode cX7_isBlock 24 = .ok (.ireturn, 1) := by decide +kernel
theorem dX7_isBlock_25 : decode cX7_isBlock 25 = .ok (.aload_n 0, 1) := by decide +kernel
theorem dX7_isBlock_26 : decode cX7_isBlock 26 = .ok (.getfield 9, 3) := by decide +kernel
theorem dX7_isBlock_29 : decode cX7_isBlock 29 = .ok (.iload_n 2, 1) := by decide +kernel
theorem dX7_isBlock_30 : decode cX7_isBlock 30 = .ok (.iaload, 1) := by decide +kernel
theorem dX7_isBlock_31 : decode cX7_isBlock 31 = .ok (.iload_n 1, 1) := by decide +kernel
theorem dX7_isBlock_32 : decode cX7_isBlock 32 = .ok (.ishr, 1) := by decide +kernel
theorem dX7_isBlock_33 : decode cX7_isBlock 33 = .ok (.iconst 1, 1) := by decide +kernel
theorem dX7_isBlock_34 : decode cX7_isBlock 34 = .ok (.iand, 1) := by decide +kernel
theorem dX7_isBlock_35 : decode cX7_isBlock 35 = .ok (.iconst 1, 1) := by decide +kernel
theorem dX7_isBlock_36 : decode cX7_isBlock 36 = .ok (.if_icmp .ne 7, 3) := by decide +kernel
theorem dX7_isBlock_39 : decode cX7_isBlock 39 = .ok (.iconst 1, 1) := by decide +kernel
theorem dX7_isBlock_40 : decode cX7_isBlock 40 = .ok (.goto 4, 3) := by decide +kernel
theorem dX7_isBlock_43 : decode cX7_isBlock 43 = .ok (.iconst 0, 1) := by decide +kernel
theorem dX7_isBlock_44 : decode cX7_isBlock 44 = .ok (.ireturn, 1) := by decide +kernel
set_option maxRecDepth 20000 in
theorem ggX7_canStand_X7_isBlock : GoodIn wsX7_canStand wsX7_isBlock := goodIn_r _ [5, 6, 7, 8, 9, 10, 11, 12, 13] (by decide +kernel) (by decide +kernel)
set_option maxRecDepth 20000 in
theorem gX7_canStand_X7_isBlock : GoodIn wsX7_canStand (wsV RX7 40 RX7 yX7_isBlock wsX7_isBlock) := goodIn_app (goodIn_of _ (by decide +kernel)) ggX7_canStand_X7_isBlock
theorem dX7_canStand_0 : decode cX7_canStand 0 = .ok (.aload_n 0, 1) := by decide +kernel
theorem dX7_canStand_1 : decode cX7_canStand 1 = .ok (.iload_n 1, 1) := by decide +kernel
theorem dX7_canStand_2 : decode cX7_canStand 2 = .ok (.iload_n 2, 1) := by decide +kernel
theorem dX7_canStand_3 : decode cX7_canStand 3 = .ok (.invokevirtual 40, 3) := by decide +kernel
theorem dX7_canStand_6 : decode cX7_canStand 6 = .ok (.ifCond .ne 18, 3) := by decide +kernel
theorem dX7_canStand_9 : decode cX7_canStand 9 = .ok (.aload_n 0, 1) := by decide +kernel
theorem dX7_canStand_10 : decode cX7_canStand 10 = .ok (.iload_n 1, 1) := by decide +kernel
theorem dX7_canStand_11 : decode cX7_canStand 11 = .ok (.iload_n 2, 1) := by decide +kernel
theorem dX7_canStand_12 : decode cX7_canStand 12 = .ok (.iconst 1, 1) := by decide +kernel
theorem dX7_canStand_13 : decode cX7_canStand 13 = .ok (.isub, 1) := by decide +kernel
theorem dX7_canStand_14 : decode cX7_canStand 14 = .ok (.invokevirtual 40, 3) := by decide +kernel
theorem dX7_canStand_17 : decode cX7_canStand 17 = .ok (.ifCond .eq 7, 3) := by decide +kernel
theorem dX7_canStand_20 : decode cX7_canStand 20 = .ok (.iconst 1, 1) := by decide +kernel
theorem dX7_canStand_21 : decode cX7_canStand 21 = .ok (.goto 4, 3) := by decide +kernel
theorem dX7_canStand_24 : decode cX7_canStand 24 = .ok (.iconst 0, 1) := by decide +kernel
theorem dX7_canStand_25 : decode cX7_canStand 25 = .ok (.ireturn, 1) := by decide +kernel
set_option maxRecDepth 20000 in
theorem ggX7_greatestRunUp_X7_canStand : GoodIn wsX7_greatestRunUp wsX7_canStand := goodIn_r _ [5, 6, 7, 8, 4, 9, 10, 11, 12, 13, 14, 15, 16, 17] (by decide +kernel) (by decide +kernel)
set_option maxRecDepth 20000 in
theorem gX7_greatestRunUp_X7_canStand : GoodIn wsX7_greatestRunUp (wsV RX7 44 RX7 yX7_canStand wsX7_canStand) := goodIn_app (goodIn_of _ (by decide +kernel)) ggX7_greatestRunUp_X7_canStand
theorem dX7_greatestRunUp_0 : decode cX7_greatestRunUp 0 = .ok (.aload_n 0, 1) := by decide +kernel
theorem dX7_greatestRunUp_1 : decode cX7_greatestRunUp 1 = .ok (.iload_n 1, 1) := by decide +kernel
theorem dX7_greatestRunUp_2 : decode cX7_greatestRunUp 2 = .ok (.iload_n 2, 1) := by decide +kernel
theorem dX7_greatestRunUp_3 : decode cX7_greatestRunUp 3 = .ok (.invokevirtual 44, 3) := by decide +kernel
theorem dX7_greatestRunUp_6 : decode cX7_greatestRunUp 6 = .ok (.ifCond .ne 5, 3) := by decide +kernel
theorem dX7_greatestRunUp_9 : decode cX7_greatestRunUp 9 = .ok (.iconst (-1), 1) := by decide +kernel
theorem dX7_greatestRunUp_10 : decode cX7_greatestRunUp 10 = .ok (.ireturn, 1) := by decide +kernel
theorem dX7_greatestRunUp_11 : decode cX7_greatestRunUp 11 = .ok (.iconst 0, 1) := by decide +kernel
theorem dX7_greatestRunUp_12 : decode cX7_greatestRunUp 12 = .ok (.istore 4, 2) := by decide +kernel
theorem dX7_greatestRunUp_14 : decode cX7_greatestRunUp 14 = .ok (.iconst 1, 1) := by decide +kernel
theorem dX7_greatestRunUp_15 : decode cX7_greatestRunUp 15 = .ok (.istore 5, 2) := by decide +kernel
theorem dX7_greatestRunUp_17 : decode cX7_greatestRunUp 17 = .ok (.iload 5, 2) := by decide +kernel
theorem dX7_greatestRunUp_19 : decode cX7_greatestRunUp 19 = .ok (.iconst 3, 1) := by decide +kernel
theorem dX7_greatestRunUp_20 : decode cX7_greatestRunUp 20 = .ok (.if_icmp .gt 27, 3) := by decide +kernel
theorem dX7_greatestRunUp_23 : decode cX7_greatestRunUp 23 = .ok (.aload_n 0, 1) := by decide +kernel
theorem dX7_greatestRunUp_24 : decode cX7_greatestRunUp 24 = .ok (.iload_n 1, 1) := by decide +kernel
theorem dX7_greatestRunUp_25 : decode cX7_greatestRunUp 25 = .ok (.iload 5, 2) := by decide +kernel
theorem dX7_greatestRunUp_27 : decode cX7_greatestRunUp 27 = .ok (.iload_n 3, 1) := by decide +kernel
theorem dX7_greatestRunUp_28 : decode cX7_greatestRunUp 28 = .ok (.imul, 1) := by decide +kernel
theorem dX7_greatestRunUp_29 : decode cX7_greatestRunUp 29 = .ok (.isub, 1) := by decide +kernel
theorem dX7_greatestRunUp_30 : decode cX7_greatestRunUp 30 = .ok (.iload_n 2, 1) := by decide +kernel
theorem dX7_greatestRunUp_31 : decode cX7_greatestRunUp 31 = .ok (.invokevirtual 44, 3) := by decide +kernel
theorem dX7_greatestRunUp_34 : decode cX7_greatestRunUp 34 = .ok (.ifCond .eq 13, 3) := by decide +kernel
theorem dX7_greatestRunUp_37 : decode cX7_greatestRunUp 37 = .ok (.iload 5, 2) := by decide +kernel
theorem dX7_greatestRunUp_39 : decode cX7_greatestRunUp 39 = .ok (.istore 4, 2) := by decide +kernel
theorem dX7_greatestRunUp_41 : decode cX7_greatestRunUp 41 = .ok (.iinc 5 1, 3) := by decide +kernel
theorem dX7_greatestRunUp_44 : decode cX7_greatestRunUp 44 = .ok (.goto (-27), 3) := by decide +kernel
theorem dX7_greatestRunUp_47 : decode cX7_greatestRunUp 47 = .ok (.iload 4, 2) := by decide +kernel
theorem dX7_greatestRunUp_49 : decode cX7_greatestRunUp 49 = .ok (.ireturn, 1) := by decide +kernel
set_option maxRecDepth 20000 in
theorem ggX7_blockCount_J6_bitCount_0f7a4 : GoodIn wsX7_blockCount wsJ6_bitCount_0f7a4 := goodIn_r _ [5, 6, 7, 8] (by decide +kernel) (by decide +kernel)
set_option maxRecDepth 20000 in
theorem gX7_blockCount_J6_bitCount_0f7a4 : GoodIn wsX7_blockCount (va_wsS RX7 47 yJ6_bitCount_0f7a4 wsJ6_bitCount_0f7a4) := goodIn_app (goodIn_of _ (by decide +kernel)) ggX7_blockCount_J6_bitCount_0f7a4
theorem dX7_blockCount_0 : decode cX7_blockCount 0 = .ok (.iconst 0, 1) := by decide +kernel
theorem dX7_blockCount_1 : decode cX7_blockCount 1 = .ok (.istore_n 1, 1) := by decide +kernel
theorem dX7_blockCount_2 : decode cX7_blockCount 2 = .ok (.aload_n 0, 1) := by decide +kernel
theorem dX7_blockCount_3 : decode cX7_blockCount 3 = .ok (.getfield 9, 3) := by decide +kernel
theorem dX7_blockCount_6 : decode cX7_blockCount 6 = .ok (.astore_n 2, 1) := by decide +kernel
theorem dX7_blockCount_7 : decode cX7_blockCount 7 = .ok (.aload_n 2, 1) := by decide +kernel
theorem dX7_blockCount_8 : decode cX7_blockCount 8 = .ok (.arraylength, 1) := by decide +kernel
theorem dX7_blockCount_9 : decode cX7_blockCount 9 = .ok (.istore_n 3, 1) := by decide +kernel
theorem dX7_blockCount_10 : decode cX7_blockCount 10 = .ok (.iconst 0, 1) := by decide +kernel
theorem dX7_blockCount_11 : decode cX7_blockCount 11 = .ok (.istore 4, 2) := by decide +kernel
theorem dX7_blockCount_13 : decode cX7_blockCount 13 = .ok (.iload 4, 2) := by decide +kernel
theorem dX7_blockCount_15 : decode cX7_blockCount 15 = .ok (.iload_n 3, 1) := by decide +kernel
theorem dX7_blockCount_16 : decode cX7_blockCount 16 = .ok (.if_icmp .ge 23, 3) := by decide +kernel
theorem dX7_blockCount_19 : decode cX7_blockCount 19 = .ok (.aload_n 2, 1) := by decide +kernel
theorem dX7_blockCount_20 : decode cX7_blockCount 20 = .ok (.iload 4, 2) := by decide +kernel
theorem dX7_blockCount_22 : decode cX7_blockCount 22 = .ok (.iaload, 1) := by decide +kernel
theorem dX7_blockCount_23 : decode cX7_blockCount 23 = .ok (.istore 5, 2) := by decide +kernel
theorem dX7_blockCount_25 : decode cX7_blockCount 25 = .ok (.iload_n 1, 1) := by decide +kernel
theorem dX7_blockCount_26 : decode cX7_blockCount 26 = .ok (.iload 5, 2) := by decide +kernel
theorem dX7_blockCount_28 : decode cX7_blockCount 28 = .ok (.invokestatic 47, 3) := by decide +kernel
theorem dX7_blockCount_31 : decode cX7_blockCount 31 = .ok (.iadd, 1) := by decide +kernel
theorem dX7_blockCount_32 : decode cX7_blockCount 32 = .ok (.istore_n 1, 1) := by decide +kernel
theorem dX7_blockCount_33 : decode cX7_blockCount 33 = .ok (.iinc 4 1, 3) := by decide +kernel
theorem dX7_blockCount_36 : decode cX7_blockCount 36 = .ok (.goto (-23), 3) := by decide +kernel
theorem dX7_blockCount_39 : decode cX7_blockCount 39 = .ok (.iload_n 1, 1) := by decide +kernel
theorem dX7_blockCount_40 : decode cX7_blockCount 40 = .ok (.ireturn, 1) := by decide +kernel
theorem dX7_turnBlock_0 : decode cX7_turnBlock 0 = .ok (.iload_n 2, 1) := by decide +kernel
theorem dX7_turnBlock_1 : decode cX7_turnBlock 1 = .ok (.ifCond .lt 24, 3) := by decide +kernel
theorem dX7_turnBlock_4 : decode cX7_turnBlock 4 = .ok (.iload_n 2, 1) := by decide +kernel
theorem dX7_turnBlock_5 : decode cX7_turnBlock 5 = .ok (.aload_n 0, 1) := by decide +kernel
theorem dX7_turnBlock_6 : decode cX7_turnBlock 6 = .ok (.getfield 9, 3) := by decide +kernel
theorem dX7_turnBlock_9 : decode cX7_turnBlock 9 = .ok (.arraylength, 1) := by decide +kernel
theorem dX7_turnBlock_10 : decode cX7_turnBlock 10 = .ok (.if_icmp .ge 15, 3) := by decide +kernel
theorem dX7_turnBlock_13 : decode cX7_turnBlock 13 = .ok (.aload_n 0, 1) := by decide +kernel
theorem dX7_turnBlock_14 : decode cX7_turnBlock 14 = .ok (.getfield 9, 3) := by decide +kernel
theorem dX7_turnBlock_17 : decode cX7_turnBlock 17 = .ok (.iload_n 2, 1) := by decide +kernel
theorem dX7_turnBlock_18 : decode cX7_turnBlock 18 = .ok (.dup2, 1) := by decide +kernel
theorem dX7_turnBlock_19 : decode cX7_turnBlock 19 = .ok (.iaload, 1) := by decide +kernel
theorem dX7_turnBlock_20 : decode cX7_turnBlock 20 = .ok (.iconst 1, 1) := by decide +kernel
theorem dX7_turnBlock_21 : decode cX7_turnBlock 21 = .ok (.iload_n 1, 1) := by decide +kernel
theorem dX7_turnBlock_22 : decode cX7_turnBlock 22 = .ok (.ishl, 1) := by decide +kernel
theorem dX7_turnBlock_23 : decode cX7_turnBlock 23 = .ok (.ixor, 1) := by decide +kernel
theorem dX7_turnBlock_24 : decode cX7_turnBlock 24 = .ok (.iastore, 1) := by decide +kernel
theorem dX7_turnBlock_25 : decode cX7_turnBlock 25 = .ok (.return_, 1) := by decide +kernel
set_option maxRecDepth 20000 in
theorem ggX7_letRunnerFall_X7_canStand : GoodIn wsX7_letRunnerFall wsX7_canStand := goodIn_r _ [7, 8, 9, 10, 6, 11, 12, 13, 14, 15, 16, 17, 18, 19] (by decide +kernel) (by decide +kernel)
set_option maxRecDepth 20000 in
theorem gX7_letRunnerFall_X7_canStand : GoodIn wsX7_letRunnerFall (wsV RX7 44 RX7 yX7_canStand wsX7_canStand) := goodIn_app (goodIn_of _ (by decide +kernel)) ggX7_letRunnerFall_X7_canStand
theorem dX7_letRunnerFall_0 : decode cX7_letRunnerFall 0 = .ok (.iconst 0, 1) := by decide +kernel
theorem dX7_letRunnerFall_1 : decode cX7_letRunnerFall 1 = .ok (.istore_n 1, 1) := by decide +kernel
theorem dX7_letRunnerFall_2 : decode cX7_letRunnerFall 2 = .ok (.iload_n 1, 1) := by decide +kernel
theorem dX7_letRunnerFall_3 : decode cX7_letRunnerFall 3 = .ok (.bipush 10, 2) := by decide +kernel
theorem dX7_letRunnerFall_5 : decode cX7_letRunnerFall 5 = .ok (.if_icmp .ge 34, 3) := by decide +kernel
theorem dX7_letRunnerFall_8 : decode cX7_letRunnerFall 8 = .ok (.aload_n 0, 1) := by decide +kernel
theorem dX7_letRunnerFall_9 : decode cX7_letRunnerFall 9 = .ok (.aload_n 0, 1) := by decide +kernel
theorem dX7_letRunnerFall_10 : decode cX7_letRunnerFall 10 = .ok (.getfield 24, 3) := by decide +kernel
theorem dX7_letRunnerFall_13 : decode cX7_letRunnerFall 13 = .ok (.aload_n 0, 1) := by decide +kernel
theorem dX7_letRunnerFall_14 : decode cX7_letRunnerFall 14 = .ok (.getfield 28, 3) := by decide +kernel
theorem dX7_letRunnerFall_17 : decode cX7_letRunnerFall 17 = .ok (.invokevirtual 44, 3) := by decide +kernel
theorem dX7_letRunnerFall_20 : decode cX7_letRunnerFall 20 = .ok (.ifCond .ne 19, 3) := by decide +kernel
theorem dX7_letRunnerFall_23 : decode cX7_letRunnerFall 23 = .ok (.aload_n 0, 1) := by decide +kernel
theorem dX7_letRunnerFall_24 : decode cX7_letRunnerFall 24 = .ok (.dup, 1) := by decide +kernel
theorem dX7_letRunnerFall_25 : decode cX7_letRunnerFall 25 = .ok (.getfield 28, 3) := by decide +kernel
theorem dX7_letRunnerFall_28 : decode cX7_letRunnerFall 28 = .ok (.iconst 1, 1) := by decide +kernel
theorem dX7_letRunnerFall_29 : decode cX7_letRunnerFall 29 = .ok (.isub, 1) := by decide +kernel
theorem dX7_letRunnerFall_30 : decode cX7_letRunnerFall 30 = .ok (.putfield 28, 3) := by decide +kernel
theorem dX7_letRunnerFall_33 : decode cX7_letRunnerFall 33 = .ok (.iinc 1 1, 3) := by decide +kernel
theorem dX7_letRunnerFall_36 : decode cX7_letRunnerFall 36 = .ok (.goto (-34), 3) := by decide +kernel
theorem dX7_letRunnerFall_39 : decode cX7_letRunnerFall 39 = .ok (.return_, 1) := by decide +kernel
set_option maxRecDepth 20000 in
theorem ggX8_init_X7_init : GoodIn wsX8_init wsX7_init := goodIn_r _ [37, 38, 2, 3, 39, 40, 41, 84, 85, 86, 87, 88, 89, 90] (by decide +kernel) (by decide +kernel)
set_option maxRecDepth 20000 in
theorem gX8_init_X7_init_n11 : GoodIn wsX8_init (wsX7_init) := ggX8_init_X7_init
set_option maxRecDepth 20000 in
theorem ggX8_init_X1_init : GoodIn wsX8_init wsX1_init := goodIn_r _ [44, 45, 2, 3, 46, 47, 5, 6, 36, 37, 38, 39, 40, 41, 101, 102, 84, 85, 86, 87, 88, 89, 90] (by decide +kernel) (by decide +kernel)
set_option maxRecDepth 20000 in
theorem gX8_init_X1_init : GoodIn wsX8_init (wsX1_init) := ggX8_init_X1_init
set_option maxRecDepth 20000 in
theorem ggX8_init_X6_init : GoodIn wsX8_init wsX6_init := goodIn_r _ [50, 51, 2, 3, 52, 53, 54, 55, 5, 6, 36, 37, 38, 39, 40, 41, 103, 104, 84, 85, 86, 87, 88, 89, 90] (by decide +kernel) (by decide +kernel)
set_option maxRecDepth 20000 in
theorem gX8_init_X6_init : GoodIn wsX8_init (wsX6_init) := ggX8_init_X6_init
set_option maxRecDepth 20000 in
theorem ggX8_init_X3_init : GoodIn wsX8_init wsX3_init := goodIn_r _ [57, 58, 2, 3, 39, 59, 60, 105, 106, 107, 108, 109, 110, 111, 112, 113, 114] (by decide +kernel) (by decide +kernel)
set_option maxRecDepth 20000 in
theorem gX8_init_X3_init_n32 : GoodIn wsX8_init (wsX3_init) := ggX8_init_X3_init
set_option maxRecDepth 20000 in
theorem ggX8_init_X0_init : GoodIn wsX8_init wsX0_init := goodIn_r _ [62, 63, 2, 3] (by decide +kernel) (by decide +kernel)
set_option maxRecDepth 20000 in
theorem gX8_init_X0_init_n39 : GoodIn wsX8_init (wsX0_init) := ggX8_init_X0_init
set_option maxRecDepth 20000 in
theorem ggX8_init_X2_init : GoodIn wsX8_init wsX2_init := goodIn_r _ [65, 66, 2, 3, 39, 67, 68, 69, 70, 122, 123, 124, 125, 126] (by decide +kernel) (by decide +kernel)
set_option maxRecDepth 20000 in
theorem gX8_init_X2_init_n46 : GoodIn wsX8_init (wsX2_init) := ggX8_init_X2_init
set_option maxRecDepth 20000 in
theorem ggX8_init_X4_init : GoodIn wsX8_init wsX4_init := goodIn_r _ [72, 73, 2, 3, 39, 74, 75, 21, 22, 76, 61, 62, 63, 127, 128, 129, 115, 116, 117, 118, 119, 120, 121] (by decide +kernel) (by decide +kernel)
set_option maxRecDepth 20000 in
theorem gX8_init_X4_init_n53 : GoodIn wsX8_init (wsX4_init) := ggX8_init_X4_init
set_option maxRecDepth 20000 in
theorem ggX8_init_X5_init : GoodIn wsX8_init wsX5_init := goodIn_r _ [78, 79, 2, 3, 39, 80, 81, 82, 83, 130, 131, 132, 133, 134] (by decide +kernel) (by decide +kernel)
set_option maxRecDepth 20000 in
theorem gX8_init_X5_init_n60 : GoodIn wsX8_init (wsX5_init) := ggX8_init_X5_init
