theorem dX0_init_0 : decode cX0_init 0 = .ok (.aload_n 0, 1) := by decide +kernel
theorem dX0_init_1 : decode cX0_init 1 = .ok (.invokespecial 3, 3) := by decide +kernel
theorem dX0_init_4 : decode cX0_init 4 = .ok (.aload_n 0, 1) := by decide +kernel
theorem dX0_init_5 : decode cX0_init 5 = .ok (.aload_n 1, 1) := by decide +kernel
theorem dX0_init_6 : decode cX0_init 6 = .ok (.putfield 9, 3) := by decide +kernel
theorem dX0_init_9 : decode cX0_init 9 = .ok (.return_, 1) := by decide +kernel
set_option maxRecDepth 20000 in
theorem ggX0_combine_X0_added : GoodIn wsX0_combine wsX0_added := goodIn_r _ [6, 1, 7, 8, 9, 10, 11, 12, 13, 14, 15, 16, 17, 18, 19, 20, 21, 22, 23, 24, 25, 26, 27, 28, 29, 30, 31, 44, 45, 46, 47, 48, 49] (by decide +kernel) (by decide +kernel)
set_option maxRecDepth 20000 in
theorem gX0_combine_X0_added : GoodIn wsX0_combine (wsV RX0 15 RX0 yX0_added wsX0_added) := goodIn_app (goodIn_of _ (by decide +kernel)) ggX0_combine_X0_added
set_option maxRecDepth 20000 in
theorem ggX0_combine_X3_carryBit : GoodIn wsX0_combine wsX3_carryBit := goodIn_r _ [35, 12, 45, 46, 47, 48, 49] (by decide +kernel) (by decide +kernel)
set_option maxRecDepth 20000 in
theorem gX0_combine_X3_carryBit : GoodIn wsX0_combine (wsV RX0 19 RX3 yX3_carryBit wsX3_carryBit) := goodIn_app (goodIn_of _ (by decide +kernel)) ggX0_combine_X3_carryBit
set_option maxRecDepth 20000 in
theorem ggX0_combine_X0_subtracted : GoodIn wsX0_combine wsX0_subtracted := goodIn_r _ [39, 1, 7, 8, 9, 10, 11, 12, 13, 14, 15, 16, 17, 18, 19, 20, 21, 22, 23, 24, 25, 26, 27, 28, 29, 30, 31, 44, 45, 46, 47, 48, 49] (by decide +kernel) (by decide +kernel)
set_option maxRecDepth 20000 in
theorem gX0_combine_X0_subtracted : GoodIn wsX0_combine (wsV RX0 25 RX0 yX0_subtracted wsX0_subtracted) := goodIn_app (goodIn_of _ (by decide +kernel)) ggX0_combine_X0_subtracted
set_option maxRecDepth 20000 in
theorem ggX0_combine_X0_bitwise : GoodIn wsX0_combine wsX0_bitwise := goodIn_r _ [43, 1, 7, 8, 9, 10, 11, 12, 13, 14, 15, 16, 17, 18, 19, 20, 21, 22, 23, 24, 25, 26, 27, 28, 29, 30, 31, 44, 45, 46, 47, 48, 49] (by decide +kernel) (by decide +kernel)
set_option maxRecDepth 20000 in
theorem gX0_combine_X0_bitwise : GoodIn wsX0_combine (wsV RX0 28 RX0 yX0_bitwise wsX0_bitwise) := goodIn_app (goodIn_of _ (by decide +kernel)) ggX0_combine_X0_bitwise
theorem dX0_combine_0 : decode cX0_combine 0 = .ok (.iload_n 1, 1) := by decide +kernel
theorem dX0_combine_1 : decode cX0_combine 1 = .ok (.tableswitch 127 0 6 #[43, 51, 65, 73, 87, 109, 118], 43) := by decide +kernel
theorem dX0_combine_44 : decode cX0_combine 44 = .ok (.aload_n 0, 1) := by decide +kernel
theorem dX0_combine_45 : decode cX0_combine 45 = .ok (.iload_n 2, 1) := by decide +kernel
theorem dX0_combine_46 : decode cX0_combine 46 = .ok (.iload_n 3, 1) := by decide +kernel
theorem dX0_combine_47 : decode cX0_combine 47 = .ok (.iconst 0, 1) := by decide +kernel
theorem dX0_combine_48 : decode cX0_combine 48 = .ok (.invokevirtual 15, 3) := by decide +kernel
theorem dX0_combine_51 : decode cX0_combine 51 = .ok (.ireturn, 1) := by decide +kernel
theorem dX0_combine_52 : decode cX0_combine 52 = .ok (.aload_n 0, 1) := by decide +kernel
theorem dX0_combine_53 : decode cX0_combine 53 = .ok (.iload_n 2, 1) := by decide +kernel
theorem dX0_combine_54 : decode cX0_combine 54 = .ok (.iload_n 3, 1) := by decide +kernel
theorem dX0_combine_55 : decode cX0_combine 55 = .ok (.aload_n 0, 1) := by decide +kernel
theorem dX0_combine_56 : decode cX0_combine 56 = .ok (.getfield 9, 3) := by decide +kernel
theorem dX0_combine_59 : decode cX0_combine 59 = .ok (.invokevirtual 19, 3) := by decide +kernel
theorem dX0_combine_62 : decode cX0_combine 62 = .ok (.invokevirtual 15, 3) := by decide +kernel
theorem dX0_combine_65 : decode cX0_combine 65 = .ok (.ireturn, 1) := by decide +kernel
theorem dX0_combine_66 : decode cX0_combine 66 = .ok (.aload_n 0, 1) := by decide +kernel
theorem dX0_combine_67 : decode cX0_combine 67 = .ok (.iload_n 2, 1) := by decide +kernel
theorem dX0_combine_68 : decode cX0_combine 68 = .ok (.iload_n 3, 1) := by decide +kernel
theorem dX0_combine_69 : decode cX0_combine 69 = .ok (.iconst 0, 1) := by decide +kernel
theorem dX0_combine_70 : decode cX0_combine 70 = .ok (.invokevirtual 25, 3) := by decide +kernel
theorem dX0_combine_73 : decode cX0_combine 73 = .ok (.ireturn, 1) := by decide +kernel
theorem dX0_combine_74 : decode cX0_combine 74 = .ok (.aload_n 0, 1) := by decide +kernel
theorem dX0_combine_75 : decode cX0_combine 75 = .ok (.iload_n 2, 1) := by decide +kernel
theorem dX0_combine_76 : decode cX0_combine 76 = .ok (.iload_n 3, 1) := by decide +kernel
theorem dX0_combine_77 : decode cX0_combine 77 = .ok (.aload_n 0, 1) := by decide +kernel
theorem dX0_combine_78 : decode cX0_combine 78 = .ok (.getfield 9, 3) := by decide +kernel
theorem dX0_combine_81 : decode cX0_combine 81 = .ok (.invokevirtual 19, 3) := by decide +kernel
theorem dX0_combine_84 : decode cX0_combine 84 = .ok (.invokevirtual 25, 3) := by decide +kernel
theorem dX0_combine_87 : decode cX0_combine 87 = .ok (.ireturn, 1) := by decide +kernel
theorem dX0_combine_88 : decode cX0_combine 88 = .ok (.aload_n 0, 1) := by decide +kernel
theorem dX0_combine_89 : decode cX0_combine 89 = .ok (.iload_n 2, 1) := by decide +kernel
theorem dX0_combine_90 : decode cX0_combine 90 = .ok (.iload_n 3, 1) := by decide +kernel
theorem dX0_combine_91 : decode cX0_combine 91 = .ok (.iand, 1) := by decide +kernel
theorem dX0_combine_92 : decode cX0_combine 92 = .ok (.iload_n 2, 1) := by decide +kernel
theorem dX0_combine_93 : decode cX0_combine 93 = .ok (.iload_n 3, 1) := by decide +kernel
theorem dX0_combine_94 : decode cX0_combine 94 = .ok (.ior, 1) := by decide +kernel
theorem dX0_combine_95 : decode cX0_combine 95 = .ok (.bipush 8, 2) := by decide +kernel
theorem dX0_combine_97 : decode cX0_combine 97 = .ok (.iand, 1) := by decide +kernel
theorem dX0_combine_98 : decode cX0_combine 98 = .ok (.ifCond .eq 7, 3) := by decide +kernel
theorem dX0_combine_101 : decode cX0_combine 101 = .ok (.iconst 1, 1) := by decide +kernel
theorem dX0_combine_102 : decode cX0_combine 102 = .ok (.goto 4, 3) := by decide +kernel
theorem dX0_combine_105 : decode cX0_combine 105 = .ok (.iconst 0, 1) := by decide +kernel
theorem dX0_combine_106 : decode cX0_combine 106 = .ok (.invokevirtual 28, 3) := by decide +kernel
theorem dX0_combine_109 : decode cX0_combine 109 = .ok (.ireturn, 1) := by decide +kernel
theorem dX0_combine_110 : decode cX0_combine 110 = .ok (.aload_n 0, 1) := by decide +kernel
theorem dX0_combine_111 : decode cX0_combine 111 = .ok (.iload_n 2, 1) := by decide +kernel
theorem dX0_combine_112 : decode cX0_combine 112 = .ok (.iload_n 3, 1) := by decide +kernel
theorem dX0_combine_113 : decode cX0_combine 113 = .ok (.ixor, 1) := by decide +kernel
theorem dX0_combine_114 : decode cX0_combine 114 = .ok (.iconst 0, 1) := by decide +kernel
theorem dX0_combine_115 : decode cX0_combine 115 = .ok (.invokevirtual 28, 3) := by decide +kernel
theorem dX0_combine_118 : decode cX0_combine 118 = .ok (.ireturn, 1) := by decide +kernel
theorem dX0_combine_119 : decode cX0_combine 119 = .ok (.aload_n 0, 1) := by decide +kernel
theorem dX0_combine_120 : decode cX0_combine 120 = .ok (.iload_n 2, 1) := by decide +kernel
theorem dX0_combine_121 : decode cX0_combine 121 = .ok (.iload_n 3, 1) := by decide +kernel
theorem dX0_combine_122 : decode cX0_combine 122 = .ok (.ior, 1) := by decide +kernel
theorem dX0_combine_123 : decode cX0_combine 123 = .ok (.iconst 0, 1) := by decide +kernel
theorem dX0_combine_124 : decode cX0_combine 124 = .ok (.invokevirtual 28, 3) := by decide +kernel
theorem dX0_combine_127 : decode cX0_combine 127 = .ok (.ireturn, 1) := by decide +kernel
theorem dX0_combine_128 : decode cX0_combine 128 = .ok (.aload_n 0, 1) := by decide +kernel
theorem dX0_combine_129 : decode cX0_combine 129 = .ok (.iload_n 2, 1) := by decide +kernel
theorem dX0_combine_130 : decode cX0_combine 130 = .ok (.iload_n 3, 1) := by decide +kernel
theorem dX0_combine_131 : decode cX0_combine 131 = .ok (.iconst 0, 1) := by decide +kernel
theorem dX0_combine_132 : decode cX0_combine 132 = .ok (.invokevirtual 25, 3) := by decide +kernel
theorem dX0_combine_135 : decode cX0_combine 135 = .ok (.pop, 1) := by decide +kernel
theorem dX0_combine_136 : decode cX0_combine 136 = .ok (.iload_n 2, 1) := by decide +kernel
theorem dX0_combine_137 : decode cX0_combine 137 = .ok (.ireturn, 1) := by decide +kernel
set_option maxRecDepth 20000 in
theorem ggX0_added_X3_setCarry : GoodIn wsX0_added wsX3_setCarry := goodIn_r _ [6, 7, 28, 29, 30, 31, 32] (by decide +kernel) (by decide +kernel)
set_option maxRecDepth 20000 in
theorem gX0_added_X3_setCarry : GoodIn wsX0_added (wsV RX0 32 RX3 yX3_setCarry wsX3_setCarry) := goodIn_app (goodIn_of _ (by decide +kernel)) ggX0_added_X3_setCarry
set_option maxRecDepth 20000 in
theorem ggX0_added_X3_setHalf : GoodIn wsX0_added wsX3_setHalf := goodIn_r _ [11, 12, 28, 29, 30, 31, 32] (by decide +kernel) (by decide +kernel)
set_option maxRecDepth 20000 in
theorem gX0_added_X3_setHalf : GoodIn wsX0_added (wsV RX0 36 RX3 yX3_setHalf wsX3_setHalf) := goodIn_app (goodIn_of _ (by decide +kernel)) ggX0_added_X3_setHalf
set_option maxRecDepth 20000 in
theorem ggX0_added_X3_setLogic : GoodIn wsX0_added wsX3_setLogic := goodIn_r _ [16, 17, 18, 19, 20, 21, 22, 23, 24, 25, 26, 28, 29, 30, 31, 32] (by decide +kernel) (by decide +kernel)
set_option maxRecDepth 20000 in
theorem gX0_added_X3_setLogic : GoodIn wsX0_added (wsV RX0 39 RX3 yX3_setLogic wsX3_setLogic) := goodIn_app (goodIn_of _ (by decide +kernel)) ggX0_added_X3_setLogic
theorem dX0_added_0 : decode cX0_added 0 = .ok (.iload_n 1, 1) := by decide +kernel
theorem dX0_added_1 : decode cX0_added 1 = .ok (.iload_n 2, 1) := by decide +kernel
theorem dX0_added_2 : decode cX0_added 2 = .ok (.iadd, 1) := by decide +kernel
theorem dX0_added_3 : decode cX0_added 3 = .ok (.iload_n 3, 1) := by decide +kernel
theorem dX0_added_4 : decode cX0_added 4 = .ok (.iadd, 1) := by decide +kernel
theorem dX0_added_5 : decode cX0_added 5 = .ok (.istore 4, 2) := by decide +kernel
theorem dX0_added_7 : decode cX0_added 7 = .ok (.aload_n 0, 1) := by decide +kernel
theorem dX0_added_8 : decode cX0_added 8 = .ok (.getfield 9, 3) := by decide +kernel
theorem dX0_added_11 : decode cX0_added 11 = .ok (.iload 4, 2) := by decide +kernel
theorem dX0_added_13 : decode cX0_added 13 = .ok (.sipush 255, 3) := by decide +kernel
theorem dX0_added_16 : decode cX0_added 16 = .ok (.if_icmp .le 7, 3) := by decide +kernel
theorem dX0_added_19 : decode cX0_added 19 = .ok (.iconst 1, 1) := by decide +kernel
theorem dX0_added_20 : decode cX0_added 20 = .ok (.goto 4, 3) := by decide +kernel
theorem dX0_added_23 : decode cX0_added 23 = .ok (.iconst 0, 1) := by decide +kernel
theorem dX0_added_24 : decode cX0_added 24 = .ok (.invokevirtual 32, 3) := by decide +kernel
theorem dX0_added_27 : decode cX0_added 27 = .ok (.aload_n 0, 1) := by decide +kernel
theorem dX0_added_28 : decode cX0_added 28 = .ok (.getfield 9, 3) := by decide +kernel
theorem dX0_added_31 : decode cX0_added 31 = .ok (.iload_n 1, 1) := by decide +kernel
theorem dX0_added_32 : decode cX0_added 32 = .ok (.bipush 15, 2) := by decide +kernel
theorem dX0_added_34 : decode cX0_added 34 = .ok (.iand, 1) := by decide +kernel
theorem dX0_added_35 : decode cX0_added 35 = .ok (.iload_n 2, 1) := by decide +kernel
theorem dX0_added_36 : decode cX0_added 36 = .ok (.bipush 15, 2) := by decide +kernel
theorem dX0_added_38 : decode cX0_added 38 = .ok (.iand, 1) := by decide +kernel
theorem dX0_added_39 : decode cX0_added 39 = .ok (.iadd, 1) := by decide +kernel
theorem dX0_added_40 : decode cX0_added 40 = .ok (.iload_n 3, 1) := by decide +kernel
theorem dX0_added_41 : decode cX0_added 41 = .ok (.iadd, 1) := by decide +kernel
theorem dX0_added_42 : decode cX0_added 42 = .ok (.bipush 15, 2) := by decide +kernel
theorem dX0_added_44 : decode cX0_added 44 = .ok (.if_icmp .le 7, 3) := by decide +kernel
theorem dX0_added_47 : decode cX0_added 47 = .ok (.iconst 1, 1) := by decide +kernel
theorem dX0_added_48 : decode cX0_added 48 = .ok (.goto 4, 3) := by decide +kernel
theorem dX0_added_51 : decode cX0_added 51 = .ok (.iconst 0, 1) := by decide +kernel
theorem dX0_added_52 : decode cX0_added 52 = .ok (.invokevirtual 36, 3) := by decide +kernel
theorem dX0_added_55 : decode cX0_added 55 = .ok (.aload_n 0, 1) := by decide +kernel
theorem dX0_added_56 : decode cX0_added 56 = .ok (.getfield 9, 3) := by decide +kernel
theorem dX0_added_59 : decode cX0_added 59 = .ok (.iload 4, 2) := by decide +kernel
theorem dX0_added_61 : decode cX0_added 61 = .ok (.sipush 255, 3) := by decide +kernel
theorem dX0_added_64 : decode cX0_added 64 = .ok (.iand, 1) := by decide +kernel
theorem dX0_added_65 : decode cX0_added 65 = .ok (.invokevirtual 39, 3) := by decide +kernel
theorem dX0_added_68 : decode cX0_added 68 = .ok (.iload 4, 2) := by decide +kernel
theorem dX0_added_70 : decode cX0_added 70 = .ok (.sipush 255, 3) := by decide +kernel
theorem dX0_added_73 : decode cX0_added 73 = .ok (.iand, 1) := by decide +kernel
theorem dX0_added_74 : decode cX0_added 74 = .ok (.ireturn, 1) := by decide +kernel
set_option maxRecDepth 20000 in
theorem ggX0_subtracted_X3_setCarry : GoodIn wsX0_subtracted wsX3_setCarry := goodIn_r _ [6, 7, 28, 29, 30, 31, 32] (by decide +kernel) (by decide +kernel)
set_option maxRecDepth 20000 in
theorem gX0_subtracted_X3_setCarry : GoodIn wsX0_subtracted (wsV RX0 32 RX3 yX3_setCarry wsX3_setCarry) := goodIn_app (goodIn_of _ (by decide +kernel)) ggX0_subtracted_X3_setCarry
set_option maxRecDepth 20000 in
theorem ggX0_subtracted_X3_setHalf : GoodIn wsX0_subtracted wsX3_setHalf := goodIn_r _ [11, 12, 28, 29, 30, 31, 32] (by decide +kernel) (by decide +kernel)
set_option maxRecDepth 20000 in
theorem gX0_subtracted_X3_setHalf : GoodIn wsX0_subtracted (wsV RX0 36 RX3 yX3_setHalf wsX3_setHalf) := goodIn_app (goodIn_of _ (by decide +kernel)) ggX0_subtracted_X3_setHalf
set_option maxRecDepth 20000 in
theorem ggX0_subtracted_X3_setLogic : GoodIn wsX0_subtracted wsX3_setLogic := goodIn_r _ [16, 17, 18, 19, 20, 21, 22, 23, 24, 25, 26, 28, 29, 30, 31, 32] (by decide +kernel) (by decide +kernel)
set_option maxRecDepth 20000 in
theorem gX0_subtracted_X3_setLogic : GoodIn wsX0_subtracted (wsV RX0 39 RX3 yX3_setLogic wsX3_setLogic) := goodIn_app (goodIn_of _ (by decide +kernel)) ggX0_subtracted_X3_setLogic
theorem dX0_subtracted_0 : decode cX0_subtracted 0 = .ok (.iload_n 1, 1) := by decide +kernel
theorem dX0_subtracted_1 : decode cX0_subtracted 1 = .ok (.iload_n 2, 1) := by decide +kernel
theorem dX0_subtracted_2 : decode cX0_subtracted 2 = .ok (.isub, 1) := by decide +kernel
theorem dX0_subtracted_3 : decode cX0_subtracted 3 = .ok (.iload_n 3, 1) := by decide +kernel
theorem dX0_subtracted_4 : decode cX0_subtracted 4 = .ok (.isub, 1) := by decide +kernel
theorem dX0_subtracted_5 : decode cX0_subtracted 5 = .ok (.istore 4, 2) := by decide +kernel
theorem dX0_subtracted_7 : decode cX0_subtracted 7 = .ok (.aload_n 0, 1) := by decide +kernel
theorem dX0_subtracted_8 : decode cX0_subtracted 8 = .ok (.getfield 9, 3) := by decide +kernel
theorem dX0_subtracted_11 : decode cX0_subtracted 11 = .ok (.iload 4, 2) := by decide +kernel
theorem dX0_subtracted_13 : decode cX0_subtracted 13 = .ok (.ifCond .ge 7, 3) := by decide +kernel
theorem dX0_subtracted_16 : decode cX0_subtracted 16 = .ok (.iconst 1, 1) := by decide +kernel
theorem dX0_subtracted_17 : decode cX0_subtracted 17 = .ok (.goto 4, 3) := by decide +kernel
theorem dX0_subtracted_20 : decode cX0_subtracted 20 = .ok (.iconst 0, 1) := by decide +kernel
theorem dX0_subtracted_21 : decode cX0_subtracted 21 = .ok (.invokevirtual 32, 3) := by decide +kernel
theorem dX0_subtracted_24 : decode cX0_subtracted 24 = .ok (.aload_n 0, 1) := by decide +kernel
theorem dX0_subtracted_25 : decode cX0_subtracted 25 = .ok (.getfield 9, 3) := by decide +kernel
theorem dX0_subtracted_28 : decode cX0_subtracted 28 = .ok (.iload_n 1, 1) := by decide +kernel
theorem dX0_subtracted_29 : decode cX0_subtracted 29 = .ok (.bipush 15, 2) := by decide +kernel
theorem dX0_subtracted_31 : decode cX0_subtracted 31 = .ok (.iand, 1) := by decide +kernel
theorem dX0_subtracted_32 : decode cX0_subtracted 32 = .ok (.iload_n 2, 1) := by decide +kernel
theorem dX0_subtracted_33 : decode cX0_subtracted 33 = .ok (.bipush 15, 2) := by decide +kernel
theorem dX0_subtracted_35 : decode cX0_subtracted 35 = .ok (.iand, 1) := by decide +kernel
theorem dX0_subtracted_36 : decode cX0_subtracted 36 = .ok (.isub, 1) := by decide +kernel
theorem dX0_subtracted_37 : decode cX0_subtracted 37 = .ok (.iload_n 3, 1) := by decide +kernel
theorem dX0_subtracted_38 : decode cX0_subtracted 38 = .ok (.isub, 1) := by decide +kernel
theorem dX0_subtracted_39 : decode cX0_subtracted 39 = .ok (.ifCond .lt 7, 3) := by decide +kernel
theorem dX0_subtracted_42 : decode cX0_subtracted 42 = .ok (.iconst 1, 1) := by decide +kernel
theorem dX0_subtracted_43 : decode cX0_subtracted 43 = .ok (.goto 4, 3) := by decide +kernel
theorem dX0_subtracted_46 : decode cX0_subtracted 46 = .ok (.iconst 0, 1) := by decide +kernel
theorem dX0_subtracted_47 : decode cX0_subtracted 47 = .ok (.invokevirtual 36, 3) := by decide +kernel
theorem dX0_subtracted_50 : decode cX0_subtracted 50 = .ok (.aload_n 0, 1) := by decide +kernel
theorem dX0_subtracted_51 : decode cX0_subtracted 51 = .ok (.getfield 9, 3) := by decide +kernel
theorem dX0_subtracted_54 : decode cX0_subtracted 54 = .ok (.iload 4, 2) := by decide +kernel
theorem dX0_subtracted_56 : decode cX0_subtracted 56 = .ok (.sipush 255, 3) := by decide +kernel
theorem dX0_subtracted_59 : decode cX0_subtracted 59 = .ok (.iand, 1) := by decide +kernel
theorem dX0_subtracted_60 : decode cX0_subtracted 60 = .ok (.invokevirtual 39, 3) := by decide +kernel
theorem dX0_subtracted_63 : decode cX0_subtracted 63 = .ok (.iload 4, 2) := by decide +kernel
theorem dX0_subtracted_65 : decode cX0_subtracted 65 = .ok (.sipush 255, 3) := by decide +kernel
theorem dX0_subtracted_68 : decode cX0_subtracted 68 = .ok (.iand, 1) := by decide +kernel
theorem dX0_subtracted_69 : decode cX0_subtracted 69 = .ok (.ireturn, 1) := by decide +kernel
set_option maxRecDepth 20000 in
theorem ggX0_bitwise_X3_setCarry : GoodIn wsX0_bitwise wsX3_setCarry := goodIn_r _ [6, 7, 28, 29, 30, 31, 32] (by decide +kernel) (by decide +kernel)
set_option maxRecDepth 20000 in
theorem gX0_bitwise_X3_setCarry : GoodIn wsX0_bitwise (wsV RX0 32 RX3 yX3_setCarry wsX3_setCarry) := goodIn_app (goodIn_of _ (by decide +kernel)) ggX0_bitwise_X3_setCarry
set_option maxRecDepth 20000 in
theorem ggX0_bitwise_X3_setHalf : GoodIn wsX0_bitwise wsX3_setHalf := goodIn_r _ [11, 12, 28, 29, 30, 31, 32] (by decide +kernel) (by decide +kernel)
set_option maxRecDepth 20000 in
theorem gX0_bitwise_X3_setHalf : GoodIn wsX0_bitwise (wsV RX0 36 RX3 yX3_setHalf wsX3_setHalf) := goodIn_app (goodIn_of _ (by decide +kernel)) ggX0_bitwise_X3_setHalf
set_option maxRecDepth 20000 in
theorem ggX0_bitwise_X3_setLogic : GoodIn wsX0_bitwise wsX3_setLogic := goodIn_r _ [16, 17, 18, 19, 20, 21, 22, 23, 24, 25, 26, 28, 29, 30, 31, 32] (by decide +kernel) (by decide +kernel)
set_option maxRecDepth 20000 in
theorem gX0_bitwise_X3_setLogic : GoodIn wsX0_bitwise (wsV RX0 39 RX3 yX3_setLogic wsX3_setLogic) := goodIn_app (goodIn_of _ (by decide +kernel)) ggX0_bitwise_X3_setLogic
theorem dX0_bitwise_0 : decode cX0_bitwise 0 = .ok (.aload_n 0, 1) := by decide +kernel
theorem dX0_bitwise_1 : decode cX0_bitwise 1 = .ok (.getfield 9, 3) := by decide +kernel
theorem dX0_bitwise_4 : decode cX0_bitwise 4 = .ok (.iconst 0, 1) := by decide +kernel
theorem dX0_bitwise_5 : decode cX0_bitwise 5 = .ok (.invokevirtual 32, 3) := by decide +kernel
theorem dX0_bitwise_8 : decode cX0_bitwise 8 = .ok (.aload_n 0, 1) := by decide +kernel
theorem dX0_bitwise_9 : decode cX0_bitwise 9 = .ok (.getfield 9, 3) := by decide +kernel
theorem dX0_bitwise_12 : decode cX0_bitwise 12 = .ok (.iload_n 2, 1) := by decide +kernel
theorem dX0_bitwise_13 : decode cX0_bitwise 13 = .ok (.invokevirtual 36, 3) := by decide +kernel
theorem dX0_bitwise_16 : decode cX0_bitwise 16 = .ok (.aload_n 0, 1) := by decide +kernel
theorem dX0_bitwise_17 : decode cX0_bitwise 17 = .ok (.getfield 9, 3) := by decide +kernel
theorem dX0_bitwise_20 : decode cX0_bitwise 20 = .ok (.iload_n 1, 1) := by decide +kernel
theorem dX0_bitwise_21 : decode cX0_bitwise 21 = .ok (.invokevirtual 39, 3) := by decide +kernel
theorem dX0_bitwise_24 : decode cX0_bitwise 24 = .ok (.iload_n 1, 1) := by decide +kernel
theorem dX0_bitwise_25 : decode cX0_bitwise 25 = .ok (.ireturn, 1) := by decide +kernel
set_option maxRecDepth 20000 in
theorem ggX0_oneMore_X3_setHalf : GoodIn wsX0_oneMore wsX3_setHalf := goodIn_r _ [6, 7, 23, 24, 25, 26, 27] (by decide +kernel) (by decide +kernel)
set_option maxRecDepth 20000 in
theorem gX0_oneMore_X3_setHalf : GoodIn wsX0_oneMore (wsV RX0 36 RX3 yX3_setHalf wsX3_setHalf) := goodIn_app (goodIn_of _ (by decide +kernel)) ggX0_oneMore_X3_setHalf
set_option maxRecDepth 20000 in
theorem ggX0_oneMore_X3_setLogic : GoodIn wsX0_oneMore wsX3_setLogic := goodIn_r _ [11, 12, 13, 14, 15, 16, 17, 18, 19, 20, 21, 23, 24, 25, 26, 27] (by decide +kernel) (by decide +kernel)
set_option maxRecDepth 20000 in
theorem gX0_oneMore_X3_setLogic : GoodIn wsX0_oneMore (wsV RX0 39 RX3 yX3_setLogic wsX3_setLogic) := goodIn_app (goodIn_of _ (by decide +kernel)) ggX0_oneMore_X3_setLogic
theorem dX0_oneMore_0 : decode cX0_oneMore 0 = .ok (.iload_n 1, 1) := by decide +kernel
theorem dX0_oneMore_1 : decode cX0_oneMore 1 = .ok (.iconst 1, 1) := by decide +kernel
theorem dX0_oneMore_2 : decode cX0_oneMore 2 = .ok (.iadd, 1) := by decide +kernel
theorem dX0_oneMore_3 : decode cX0_oneMore 3 = .ok (.sipush 255, 3) := by decide +kernel
theorem dX0_oneMore_6 : decode cX0_oneMore 6 = .ok (.iand, 1) := by decide +kernel
theorem dX0_oneMore_7 : decode cX0_oneMore 7 = .ok (.istore_n 2, 1) := by decide +kernel
theorem dX0_oneMore_8 : decode cX0_oneMore 8 = .ok (.aload_n 0, 1) := by decide +kernel
theorem dX0_oneMore_9 : decode cX0_oneMore 9 = .ok (.getfield 9, 3) := by decide +kernel
theorem dX0_oneMore_12 : decode cX0_oneMore 12 = .ok (.iload_n 2, 1) := by decide +kernel
theorem dX0_oneMore_13 : decode cX0_oneMore 13 = .ok (.bipush 15, 2) := by decide +kernel
theorem dX0_oneMore_15 : decode cX0_oneMore 15 = .ok (.iand, 1) := by decide +kernel
theorem dX0_oneMore_16 : decode cX0_oneMore 16 = .ok (.ifCond .ne 7, 3) := by decide +kernel
theorem dX0_oneMore_19 : decode cX0_oneMore 19 = .ok (.iconst 1, 1) := by decide +kernel
theorem dX0_oneMore_20 : decode cX0_oneMore 20 = .ok (.goto 4, 3) := by decide +kernel
theorem dX0_oneMore_23 : decode cX0_oneMore 23 = .ok (.iconst 0, 1) := by decide +kernel
theorem dX0_oneMore_24 : decode cX0_oneMore 24 = .ok (.invokevirtual 36, 3) := by decide +kernel
theorem dX0_oneMore_27 : decode cX0_oneMore 27 = .ok (.aload_n 0, 1) := by decide +kernel
theorem dX0_oneMore_28 : decode cX0_oneMore 28 = .ok (.getfield 9, 3) := by decide +kernel
theorem dX0_oneMore_31 : decode cX0_oneMore 31 = .ok (.iload_n 2, 1) := by decide +kernel
theorem dX0_oneMore_32 : decode cX0_oneMore 32 = .ok (.invokevirtual 39, 3) := by decide +kernel
theorem dX0_oneMore_35 : decode cX0_oneMore 35 = .ok (.iload_n 2, 1) := by decide +kernel
theorem dX0_oneMore_36 : decode cX0_oneMore 36 = .ok (.ireturn, 1) := by decide +kernel
set_option maxRecDepth 20000 in
theorem ggX0_oneLess_X3_setHalf : GoodIn wsX0_oneLess wsX3_setHalf := goodIn_r _ [6, 7, 23, 24, 25, 26, 27] (by decide +kernel) (by decide +kernel)
set_option maxRecDepth 20000 in
theorem gX0_oneLess_X3_setHalf : GoodIn wsX0_oneLess (wsV RX0 36 RX3 yX3_setHalf wsX3_setHalf) := goodIn_app (goodIn_of _ (by decide +kernel)) ggX0_oneLess_X3_setHalf
set_option maxRecDepth 20000 in
theorem ggX0_oneLess_X3_setLogic : GoodIn wsX0_oneLess wsX3_setLogic := goodIn_r _ [11, 12, 13, 14, 15, 16, 17, 18, 19, 20, 21, 23, 24, 25, 26, 27] (by decide +kernel) (by decide +kernel)
set_option maxRecDepth 20000 in
theorem gX0_oneLess_X3_setLogic : GoodIn wsX0_oneLess (wsV RX0 39 RX3 yX3_setLogic wsX3_setLogic) := goodIn_app (goodIn_of _ (by decide +kernel)) ggX0_oneLess_X3_setLogic
theorem dX0_oneLess_0 : decode cX0_oneLess 0 = .ok (.iload_n 1, 1) := by decide +kernel
theorem dX0_oneLess_1 : decode cX0_oneLess 1 = .ok (.iconst 1, 1) := by decide +kernel
theorem dX0_oneLess_2 : decode cX0_oneLess 2 = .ok (.isub, 1) := by decide +kernel
theorem dX0_oneLess_3 : decode cX0_oneLess 3 = .ok (.sipush 255, 3) := by decide +kernel
theorem dX0_oneLess_6 : decode cX0_oneLess 6 = .ok (.iand, 1) := by decide +kernel
theorem dX0_oneLess_7 : decode cX0_oneLess 7 = .ok (.istore_n 2, 1) := by decide +kernel
theorem dX0_oneLess_8 : decode cX0_oneLess 8 = .ok (.aload_n 0, 1) := by decide +kernel
theorem dX0_oneLess_9 : decode cX0_oneLess 9 = .ok (.getfield 9, 3) := by decide +kernel
theorem dX0_oneLess_12 : decode cX0_oneLess 12 = .ok (.iload_n 2, 1) := by decide +kernel
theorem dX0_oneLess_13 : decode cX0_oneLess 13 = .ok (.bipush 15, 2) := by decide +kernel
theorem dX0_oneLess_15 : decode cX0_oneLess 15 = .ok (.iand, 1) := by decide +kernel
theorem dX0_oneLess_16 : decode cX0_oneLess 16 = .ok (.bipush 15, 2) := by decide +kernel
theorem dX0_oneLess_18 : decode cX0_oneLess 18 = .ok (.if_icmp .eq 7, 3) := by decide +kernel
theorem dX0_oneLess_21 : decode cX0_oneLess 21 = .ok (.iconst 1, 1) := by decide +kernel
theorem dX0_oneLess_22 : decode cX0_oneLess 22 = .ok (.goto 4, 3) := by decide +kernel
theorem dX0_oneLess_25 : decode cX0_oneLess 25 = .ok (.iconst 0, 1) := by decide +kernel
theorem dX0_oneLess_26 : decode cX0_oneLess 26 = .ok (.invokevirtual 36, 3) := by decide +kernel
theorem dX0_oneLess_29 : decode cX0_oneLess 29 = .ok (.aload_n 0, 1) := by decide +kernel
theorem dX0_oneLess_30 : decode cX0_oneLess 30 = .ok (.getfield 9, 3) := by decide +kernel
theorem dX0_oneLess_33 : decode cX0_oneLess 33 = .ok (.iload_n 2, 1) := by decide +kernel
theorem dX0_oneLess_34 : decode cX0_oneLess 34 = .ok (.invokevirtual 39, 3) := by decide +kernel
theorem dX0_oneLess_37 : decode cX0_oneLess 37 = .ok (.iload_n 2, 1) := by decide +kernel
theorem dX0_oneLess_38 : decode cX0_oneLess 38 = .ok (.ireturn, 1) := by decide +kernel
set_option maxRecDepth 20000 in
theorem ggX0_adjust_X0_turnLeft : GoodIn wsX0_adjust wsX0_turnLeft := goodIn_r _ [6, 1, 7, 8, 9, 10, 11, 12, 52, 53, 54, 55, 56, 57] (by decide +kernel) (by decide +kernel)
set_option maxRecDepth 20000 in
theorem gX0_adjust_X0_turnLeft : GoodIn wsX0_adjust (wsV RX0 43 RX0 yX0_turnLeft wsX0_turnLeft) := goodIn_app (goodIn_of _ (by decide +kernel)) ggX0_adjust_X0_turnLeft
set_option maxRecDepth 20000 in
theorem ggX0_adjust_X0_turnRight : GoodIn wsX0_adjust wsX0_turnRight := goodIn_r _ [16, 1, 7, 8, 9, 10, 11, 12, 52, 53, 54, 55, 56, 57] (by decide +kernel) (by decide +kernel)
set_option maxRecDepth 20000 in
theorem gX0_adjust_X0_turnRight : GoodIn wsX0_adjust (wsV RX0 47 RX0 yX0_turnRight wsX0_turnRight) := goodIn_app (goodIn_of _ (by decide +kernel)) ggX0_adjust_X0_turnRight
set_option maxRecDepth 20000 in
theorem ggX0_adjust_X3_carryBit : GoodIn wsX0_adjust wsX3_carryBit := goodIn_r _ [20, 12, 53, 54, 55, 56, 57] (by decide +kernel) (by decide +kernel)
set_option maxRecDepth 20000 in
theorem gX0_adjust_X3_carryBit : GoodIn wsX0_adjust (wsV RX0 19 RX3 yX3_carryBit wsX3_carryBit) := goodIn_app (goodIn_of _ (by decide +kernel)) ggX0_adjust_X3_carryBit
set_option maxRecDepth 20000 in
theorem ggX0_adjust_X0_toDecimal : GoodIn wsX0_adjust wsX0_toDecimal := goodIn_r _ [24, 1, 25, 26, 27, 10, 28, 29, 30, 31, 32, 33, 12, 34, 35, 36, 37, 7, 8, 9, 11, 38, 39, 40, 41, 42, 43, 44, 45, 46, 47, 48, 49, 50, 51, 52, 53, 54, 55, 56, 57] (by decide +kernel) (by decide +kernel)
set_option maxRecDepth 20000 in
theorem gX0_adjust_X0_toDecimal : GoodIn wsX0_adjust (wsV RX0 50 RX0 yX0_toDecimal wsX0_toDecimal) := goodIn_app (goodIn_of _ (by decide +kernel)) ggX0_adjust_X0_toDecimal
set_option maxRecDepth 20000 in
theorem ggX0_adjust_X3_setCarry : GoodIn wsX0_adjust wsX3_setCarry := goodIn_r _ [11, 12, 53, 54, 55, 56, 57] (by decide +kernel) (by decide +kernel)
set_option maxRecDepth 20000 in
theorem gX0_adjust_X3_setCarry : GoodIn wsX0_adjust (wsV RX0 32 RX3 yX3_setCarry wsX3_setCarry) := goodIn_app (goodIn_of _ (by decide +kernel)) ggX0_adjust_X3_setCarry
set_option maxRecDepth 20000 in
theorem ggX0_adjust_X3_hasCarry : GoodIn wsX0_adjust wsX3_hasCarry := goodIn_r _ [33, 12, 53, 54, 55, 56, 57] (by decide +kernel) (by decide +kernel)
set_option maxRecDepth 20000 in
theorem gX0_adjust_X3_hasCarry : GoodIn wsX0_adjust (wsV RX0 54 RX3 yX3_hasCarry wsX3_hasCarry) := goodIn_app (goodIn_of _ (by decide +kernel)) ggX0_adjust_X3_hasCarry
theorem dX0_adjust_0 : decode cX0_adjust 0 = .ok (.iload_n 1, 1) := by decide +kernel
theorem dX0_adjust_1 : decode cX0_adjust 1 = .ok (.tableswitch 110 0 6 #[43, 53, 62, 75, 88, 94, 100], 43) := by decide +kernel
theorem dX0_adjust_44 : decode cX0_adjust 44 = .ok (.aload_n 0, 1) := by decide +kernel
theorem dX0_adjust_45 : decode cX0_adjust 45 = .ok (.iload_n 2, 1) := by decide +kernel
theorem dX0_adjust_46 : decode cX0_adjust 46 = .ok (.iload_n 2, 1) := by decide +kernel
theorem dX0_adjust_47 : decode cX0_adjust 47 = .ok (.bipush 7, 2) := by decide +kernel
theorem dX0_adjust_49 : decode cX0_adjust 49 = .ok (.ishr, 1) := by decide +kernel
theorem dX0_adjust_50 : decode cX0_adjust 50 = .ok (.invokevirtual 43, 3) := by decide +kernel
theorem dX0_adjust_53 : decode cX0_adjust 53 = .ok (.ireturn, 1) := by decide +kernel
theorem dX0_adjust_54 : decode cX0_adjust 54 = .ok (.aload_n 0, 1) := by decide +kernel
theorem dX0_adjust_55 : decode cX0_adjust 55 = .ok (.iload_n 2, 1) := by decide +kernel
theorem dX0_adjust_56 : decode cX0_adjust 56 = .ok (.iload_n 2, 1) := by decide +kernel
theorem dX0_adjust_57 : decode cX0_adjust 57 = .ok (.iconst 1, 1) := by decide +kernel
theorem dX0_adjust_58 : decode cX0_adjust 58 = .ok (.iand, 1) := by decide +kernel
theorem dX0_adjust_59 : decode cX0_adjust 59 = .ok (.invokevirtual 47, 3) := by decide +kernel
theorem dX0_adjust_62 : decode cX0_adjust 62 = .ok (.ireturn, 1) := by decide +kernel
theorem dX0_adjust_63 : decode cX0_adjust 63 = .ok (.aload_n 0, 1) := by decide +kernel
theorem dX0_adjust_64 : decode cX0_adjust 64 = .ok (.iload_n 2, 1) := by decide +kernel
theorem dX0_adjust_65 : decode cX0_adjust 65 = .ok (.aload_n 0, 1) := by decide +kernel
theorem dX0_adjust_66 : decode cX0_adjust 66 = .ok (.getfield 9, 3) := by decide +kernel
theorem dX0_adjust_69 : decode cX0_adjust 69 = .ok (.invokevirtual 19, 3) := by decide +kernel
theorem dX0_adjust_72 : decode cX0_adjust 72 = .ok (.invokevirtual 43, 3) := by decide +kernel
theorem dX0_adjust_75 : decode cX0_adjust 75 = .ok (.ireturn, 1) := by decide +kernel
theorem dX0_adjust_76 : decode cX0_adjust 76 = .ok (.aload_n 0, 1) := by decide +kernel
theorem dX0_adjust_77 : decode cX0_adjust 77 = .ok (.iload_n 2, 1) := by decide +kernel
theorem dX0_adjust_78 : decode cX0_adjust 78 = .ok (.aload_n 0, 1) := by decide +kernel
theorem dX0_adjust_79 : decode cX0_adjust 79 = .ok (.getfield 9, 3) := by decide +kernel
theorem dX0_adjust_82 : decode cX0_adjust 82 = .ok (.invokevirtual 19, 3) := by decide +kernel
theorem dX0_adjust_85 : decode cX0_adjust 85 = .ok (.invokevirtual 47, 3) := by decide +kernel
theorem dX0_adjust_88 : decode cX0_adjust 88 = .ok (.ireturn, 1) := by decide +kernel
theorem dX0_adjust_89 : decode cX0_adjust 89 = .ok (.aload_n 0, 1) := by decide +kernel
theorem dX0_adjust_90 : decode cX0_adjust 90 = .ok (.iload_n 2, 1) := by decide +kernel
theorem dX0_adjust_91 : decode cX0_adjust 91 = .ok (.invokevirtual 50, 3) := by decide +kernel
theorem dX0_adjust_94 : decode cX0_adjust 94 = .ok (.ireturn, 1) := by decide +kernel
theorem dX0_adjust_95 : decode cX0_adjust 95 = .ok (.iload_n 2, 1) := by decide +kernel
theorem dX0_adjust_96 : decode cX0_adjust 96 = .ok (.sipush 255, 3) := by decide +kernel
theorem dX0_adjust_99 : decode cX0_adjust 99 = .ok (.ixor, 1) := by decide +kernel
theorem dX0_adjust_100 : decode cX0_adjust 100 = .ok (.ireturn, 1) := by decide +kernel
theorem dX0_adjust_101 : decode cX0_adjust 101 = .ok (.aload_n 0, 1) := by decide +kernel
theorem dX0_adjust_102 : decode cX0_adjust 102 = .ok (.getfield 9, 3) := by decide +kernel
theorem dX0_adjust_105 : decode cX0_adjust 105 = .ok (.iconst 1, 1) := by decide +kernel
theorem dX0_adjust_106 : decode cX0_adjust 106 = .ok (.invokevirtual 32, 3) := by decide +kernel
theorem dX0_adjust_109 : decode cX0_adjust 109 = .ok (.iload_n 2, 1) := by decide +kernel
theorem dX0_adjust_110 : decode cX0_adjust 110 = .ok (.ireturn, 1) := by decide +kernel
theorem dX0_adjust_111 : decode cX0_adjust 111 = .ok (.aload_n 0, 1) := by decide +kernel
theorem dX0_adjust_112 : decode cX0_adjust 112 = .ok (.getfield 9, 3) := by decide +kernel
theorem dX0_adjust_115 : decode cX0_adjust 115 = .ok (.aload_n 0, 1) := by decide +kernel
theorem dX0_adjust_116 : decode cX0_adjust 116 = .ok (.getfield 9, 3) := by decide +kernel
theorem dX0_adjust_119 : decode cX0_adjust 119 = .ok (.invokevirtual 54, 3) := by decide +kernel
theorem dX0_adjust_122 : decode cX0_adjust 122 = .ok (.ifCond .ne 7, 3) := by decide +kernel
theorem dX0_adjust_125 : decode cX0_adjust 125 = .ok (.iconst 1, 1) := by decide +kernel
theorem dX0_adjust_126 : decode cX0_adjust 126 = .ok (.goto 4, 3) := by decide +kernel
theorem dX0_adjust_129 : decode cX0_adjust 129 = .ok (.iconst 0, 1) := by decide +kernel
theorem dX0_adjust_130 : decode cX0_adjust 130 = .ok (.invokevirtual 32, 3) := by decide +kernel
theorem dX0_adjust_133 : decode cX0_adjust 133 = .ok (.iload_n 2, 1) := by decide +kernel
theorem dX0_adjust_134 : decode cX0_adjust 134 = .ok (.ireturn, 1) := by decide +kernel
set_option maxRecDepth 20000 in
theorem ggX0_turnLeft_X3_setCarry : GoodIn wsX0_turnLeft wsX3_setCarry := goodIn_r _ [6, 7, 9, 10, 11, 12, 13] (by decide +kernel) (by decide +kernel)
set_option maxRecDepth 20000 in
theorem gX0_turnLeft_X3_setCarry : GoodIn wsX0_turnLeft (wsV RX0 32 RX3 yX3_setCarry wsX3_setCarry) := goodIn_app (goodIn_of _ (by decide +kernel)) ggX0_turnLeft_X3_setCarry
theorem dX0_turnLeft_0 : decode cX0_turnLeft 0 = .ok (.aload_n 0, 1) := by decide +kernel
theorem dX0_turnLeft_1 : decode cX0_turnLeft 1 = .ok (.getfield 9, 3) := by decide +kernel
theorem dX0_turnLeft_4 : decode cX0_turnLeft 4 = .ok (.iload_n 1, 1) := by decide +kernel
theorem dX0_turnLeft_5 : decode cX0_turnLeft 5 = .ok (.sipush 128, 3) := by decide +kernel
theorem dX0_turnLeft_8 : decode cX0_turnLeft 8 = .ok (.iand, 1) := by decide +kernel
theorem dX0_turnLeft_9 : decode cX0_turnLeft 9 = .ok (.ifCond .eq 7, 3) := by decide +kernel
theorem dX0_turnLeft_12 : decode cX0_turnLeft 12 = .ok (.iconst 1, 1) := by decide +kernel
theorem dX0_turnLeft_13 : decode cX0_turnLeft 13 = .ok (.goto 4, 3) := by decide +kernel
theorem dX0_turnLeft_16 : decode cX0_turnLeft 16 = .ok (.iconst 0, 1) := by decide +kernel
theorem dX0_turnLeft_17 : decode cX0_turnLeft 17 = .ok (.invokevirtual 32, 3) := by decide +kernel
theorem dX0_turnLeft_20 : decode cX0_turnLeft 20 = .ok (.iload_n 1, 1) := by decide +kernel
theorem dX0_turnLeft_21 : decode cX0_turnLeft 21 = .ok (.iconst 1, 1) := by decide +kernel
theorem dX0_turnLeft_22 : decode cX0_turnLeft 22 = .ok (.ishl, 1) := by decide +kernel
theorem dX0_turnLeft_23 : decode cX0_turnLeft 23 = .ok (.sipush 255, 3) := by decide +kernel
theorem dX0_turnLeft_26 : decode cX0_turnLeft 26 = .ok (.iand, 1) := by decide +kernel
theorem dX0_turnLeft_27 : decode cX0_turnLeft 27 = .ok (.iload_n 2, 1) := by decide +kernel
theorem dX0_turnLeft_28 : decode cX0_turnLeft 28 = .ok (.ior, 1) := by decide +kernel
theorem dX0_turnLeft_29 : decode cX0_turnLeft 29 = .ok (.ireturn, 1) := by decide +kernel
set_option maxRecDepth 20000 in
theorem ggX0_turnRight_X3_setCarry : GoodIn wsX0_turnRight wsX3_setCarry := goodIn_r _ [6, 7, 9, 10, 11, 12, 13] (by decide +kernel) (by decide +kernel)
set_option maxRecDepth 20000 in
theorem gX0_turnRight_X3_setCarry : GoodIn wsX0_turnRight (wsV RX0 32 RX3 yX3_setCarry wsX3_setCarry) := goodIn_app (goodIn_of _ (by decide +kernel)) ggX0_turnRight_X3_setCarry
theorem dX0_turnRight_0 : decode cX0_turnRight 0 = .ok (.aload_n 0, 1) := by decide +kernel
theorem dX0_turnRight_1 : decode cX0_turnRight 1 = .ok (.getfield 9, 3) := by decide +kernel
theorem dX0_turnRight_4 : decode cX0_turnRight 4 = .ok (.iload_n 1, 1) := by decide +kernel
theorem dX0_turnRight_5 : decode cX0_turnRight 5 = .ok (.iconst 1, 1) := by decide +kernel
theorem dX0_turnRight_6 : decode cX0_turnRight 6 = .ok (.iand, 1) := by decide +kernel
theorem dX0_turnRight_7 : decode cX0_turnRight 7 = .ok (.ifCond .eq 7, 3) := by decide +kernel
theorem dX0_turnRight_10 : decode cX0_turnRight 10 = .ok (.iconst 1, 1) := by decide +kernel
theorem dX0_turnRight_11 : decode cX0_turnRight 11 = .ok (.goto 4, 3) := by decide +kernel
theorem dX0_turnRight_14 : decode cX0_turnRight 14 = .ok (.iconst 0, 1) := by decide +kernel
theorem dX0_turnRight_15 : decode cX0_turnRight 15 = .ok (.invokevirtual 32, 3) := by decide +kernel
theorem dX0_turnRight_18 : decode cX0_turnRight 18 = .ok (.iload_n 1, 1) := by decide +kernel
theorem dX0_turnRight_19 : decode cX0_turnRight 19 = .ok (.iconst 1, 1) := by decide +kernel
theorem dX0_turnRight_20 : decode cX0_turnRight 20 = .ok (.ishr, 1) := by decide +kernel
theorem dX0_turnRight_21 : decode cX0_turnRight 21 = .ok (.iload_n 2, 1) := by decide +kernel
theorem dX0_turnRight_22 : decode cX0_turnRight 22 = .ok (.bipush 7, 2) := by decide +kernel
theorem dX0_turnRight_24 : decode cX0_turnRight 24 = .ok (.ishl, 1) := by decide +kernel
theorem dX0_turnRight_25 : decode cX0_turnRight 25 = .ok (.ior, 1) := by decide +kernel
theorem dX0_turnRight_26 : decode cX0_turnRight 26 = .ok (.ireturn, 1) := by decide +kernel
set_option maxRecDepth 20000 in
theorem ggX0_toDecimal_X3_hasHalf : GoodIn wsX0_toDecimal wsX3_hasHalf := goodIn_r _ [6, 7, 36, 37, 38, 39, 40] (by decide +kernel) (by decide +kernel)
set_option maxRecDepth 20000 in
theorem gX0_toDecimal_X3_hasHalf : GoodIn wsX0_toDecimal (wsV RX0 58 RX3 yX3_hasHalf wsX3_hasHalf) := goodIn_app (goodIn_of _ (by decide +kernel)) ggX0_toDecimal_X3_hasHalf
set_option maxRecDepth 20000 in
theorem ggX0_toDecimal_X3_hasCarry : GoodIn wsX0_toDecimal wsX3_hasCarry := goodIn_r _ [11, 12, 36, 37, 38, 39, 40] (by decide +kernel) (by decide +kernel)
set_option maxRecDepth 20000 in
theorem gX0_toDecimal_X3_hasCarry : GoodIn wsX0_toDecimal (wsV RX0 54 RX3 yX3_hasCarry wsX3_hasCarry) := goodIn_app (goodIn_of _ (by decide +kernel)) ggX0_toDecimal_X3_hasCarry
set_option maxRecDepth 20000 in
theorem ggX0_toDecimal_X3_setHalf : GoodIn wsX0_toDecimal wsX3_setHalf := goodIn_r _ [16, 7, 36, 37, 38, 39, 40] (by decide +kernel) (by decide +kernel)
set_option maxRecDepth 20000 in
theorem gX0_toDecimal_X3_setHalf : GoodIn wsX0_toDecimal (wsV RX0 36 RX3 yX3_setHalf wsX3_setHalf) := goodIn_app (goodIn_of _ (by decide +kernel)) ggX0_toDecimal_X3_setHalf
set_option maxRecDepth 20000 in
theorem ggX0_toDecimal_X3_setCarry : GoodIn wsX0_toDecimal wsX3_setCarry := goodIn_r _ [20, 12, 36, 37, 38, 39, 40] (by decide +kernel) (by decide +kernel)
set_option maxRecDepth 20000 in
theorem gX0_toDecimal_X3_setCarry : GoodIn wsX0_toDecimal (wsV RX0 32 RX3 yX3_setCarry wsX3_setCarry) := goodIn_app (goodIn_of _ (by decide +kernel)) ggX0_toDecimal_X3_setCarry
set_option maxRecDepth 20000 in
theorem ggX0_toDecimal_X3_setLogic : GoodIn wsX0_toDecimal wsX3_setLogic := goodIn_r _ [24, 25, 26, 27, 28, 29, 30, 31, 32, 33, 34, 36, 37, 38, 39, 40] (by decide +kernel) (by decide +kernel)
set_option maxRecDepth 20000 in
theorem gX0_toDecimal_X3_setLogic : GoodIn wsX0_toDecimal (wsV RX0 39 RX3 yX3_setLogic wsX3_setLogic) := goodIn_app (goodIn_of _ (by decide +kernel)) ggX0_toDecimal_X3_setLogic
theorem dX0_toDecimal_0 : decode cX0_toDecimal 0 = .ok (.iload_n 1, 1) := by decide +kernel
theorem dX0_toDecimal_1 : decode cX0_toDecimal 1 = .ok (.bipush 15, 2) := by decide +kernel
theorem dX0_toDecimal_3 : decode cX0_toDecimal 3 = .ok (.iand, 1) := by decide +kernel
theorem dX0_toDecimal_4 : decode cX0_toDecimal 4 = .ok (.istore_n 2, 1) := by decide +kernel
theorem dX0_toDecimal_5 : decode cX0_toDecimal 5 = .ok (.iload_n 1, 1) := by decide +kernel
theorem dX0_toDecimal_6 : decode cX0_toDecimal 6 = .ok (.iconst 4, 1) := by decide +kernel
theorem dX0_toDecimal_7 : decode cX0_toDecimal 7 = .ok (.ishr, 1) := by decide +kernel
theorem dX0_toDecimal_8 : decode cX0_toDecimal 8 = .ok (.istore_n 3, 1) := by decide +kernel
theorem dX0_toDecimal_9 : decode cX0_toDecimal 9 = .ok (.iload_n 2, 1) := by decide +kernel
theorem dX0_toDecimal_10 : decode cX0_toDecimal 10 = .ok (.bipush 9, 2) := by decide +kernel
theorem dX0_toDecimal_12 : decode cX0_toDecimal 12 = .ok (.if_icmp .gt 13, 3) := by decide +kernel
theorem dX0_toDecimal_15 : decode cX0_toDecimal 15 = .ok (.aload_n 0, 1) := by decide +kernel
theorem dX0_toDecimal_16 : decode cX0_toDecimal 16 = .ok (.getfield 9, 3) := by decide +kernel
theorem dX0_toDecimal_19 : decode cX0_toDecimal 19 = .ok (.invokevirtual 58, 3) := by decide +kernel
theorem dX0_toDecimal_22 : decode cX0_toDecimal 22 = .ok (.ifCond .eq 7, 3) := by decide +kernel
theorem dX0_toDecimal_25 : decode cX0_toDecimal 25 = .ok (.iconst 1, 1) := by decide +kernel
theorem dX0_toDecimal_26 : decode cX0_toDecimal 26 = .ok (.goto 4, 3) := by decide +kernel
theorem dX0_toDecimal_29 : decode cX0_toDecimal 29 = .ok (.iconst 0, 1) := by decide +kernel
theorem dX0_toDecimal_30 : decode cX0_toDecimal 30 = .ok (.istore 4, 2) := by decide +kernel
theorem dX0_toDecimal_32 : decode cX0_toDecimal 32 = .ok (.iload_n 3, 1) := by decide +kernel
theorem dX0_toDecimal_33 : decode cX0_toDecimal 33 = .ok (.bipush 9, 2) := by decide +kernel
theorem dX0_toDecimal_35 : decode cX0_toDecimal 35 = .ok (.if_icmp .gt 25, 3) := by decide +kernel
theorem dX0_toDecimal_38 : decode cX0_toDecimal 38 = .ok (.aload_n 0, 1) := by decide +kernel
theorem dX0_toDecimal_39 : decode cX0_toDecimal 39 = .ok (.getfield 9, 3) := by decide +kernel
theorem dX0_toDecimal_42 : decode cX0_toDecimal 42 = .ok (.invokevirtual 54, 3) := by decide +kernel
theorem dX0_toDecimal_45 : decode cX0_toDecimal 45 = .ok (.ifCond .ne 15, 3) := by decide +kernel
theorem dX0_toDecimal_48 : decode cX0_toDecimal 48 = .ok (.iload_n 3, 1) := by decide +kernel
theorem dX0_toDecimal_49 : decode cX0_toDecimal 49 = .ok (.bipush 9, 2) := by decide +kernel
theorem dX0_toDecimal_51 : decode cX0_toDecimal 51 = .ok (.if_icmp .ne 13, 3) := by decide +kernel
theorem dX0_toDecimal_54 : decode cX0_toDecimal 54 = .ok (.iload_n 2, 1) := by decide +kernel
theorem dX0_toDecimal_55 : decode cX0_toDecimal 55 = .ok (.bipush 9, 2) := by decide +kernel
theorem dX0_toDecimal_57 : decode cX0_toDecimal 57 = .ok (.if_icmp .le 7, 3) := by decide +kernel
theorem dX0_toDecimal_60 : decode cX0_toDecimal 60 = .ok (.iconst 1, 1) := by decide +kernel
theorem dX0_toDecimal_61 : decode cX0_toDecimal 61 = .ok (.goto 4, 3) := by decide +kernel
theorem dX0_toDecimal_64 : decode cX0_toDecimal 64 = .ok (.iconst 0, 1) := by decide +kernel
theorem dX0_toDecimal_65 : decode cX0_toDecimal 65 = .ok (.istore 5, 2) := by decide +kernel
theorem dX0_toDecimal_67 : decode cX0_toDecimal 67 = .ok (.iload_n 1, 1) := by decide +kernel
theorem dX0_toDecimal_68 : decode cX0_toDecimal 68 = .ok (.iload 4, 2) := by decide +kernel
theorem dX0_toDecimal_70 : decode cX0_toDecimal 70 = .ok (.ifCond .eq 8, 3) := by decide +kernel
theorem dX0_toDecimal_73 : decode cX0_toDecimal 73 = .ok (.bipush 6, 2) := by decide +kernel
theorem dX0_toDecimal_75 : decode cX0_toDecimal 75 = .ok (.goto 4, 3) := by decide +kernel
theorem dX0_toDecimal_78 : decode cX0_toDecimal 78 = .ok (.iconst 0, 1) := by decide +kernel
theorem dX0_toDecimal_79 : decode cX0_toDecimal 79 = .ok (.iadd, 1) := by decide +kernel
theorem dX0_toDecimal_80 : decode cX0_toDecimal 80 = .ok (.iload 5, 2) := by decide +kernel
theorem dX0_toDecimal_82 : decode cX0_toDecimal 82 = .ok (.ifCond .eq 8, 3) := by decide +kernel
theorem dX0_toDecimal_85 : decode cX0_toDecimal 85 = .ok (.bipush 96, 2) := by decide +kernel
theorem dX0_toDecimal_87 : decode cX0_toDecimal 87 = .ok (.goto 4, 3) := by decide +kernel
theorem dX0_toDecimal_90 : decode cX0_toDecimal 90 = .ok (.iconst 0, 1) := by decide +kernel
theorem dX0_toDecimal_91 : decode cX0_toDecimal 91 = .ok (.iadd, 1) := by decide +kernel
theorem dX0_toDecimal_92 : decode cX0_toDecimal 92 = .ok (.sipush 255, 3) := by decide +kernel
theorem dX0_toDecimal_95 : decode cX0_toDecimal 95 = .ok (.iand, 1) := by decide +kernel
theorem dX0_toDecimal_96 : decode cX0_toDecimal 96 = .ok (.istore 6, 2) := by decide +kernel
theorem dX0_toDecimal_98 : decode cX0_toDecimal 98 = .ok (.aload_n 0, 1) := by decide +kernel
theorem dX0_toDecimal_99 : decode cX0_toDecimal 99 = .ok (.getfield 9, 3) := by decide +kernel
theorem dX0_toDecimal_102 : decode cX0_toDecimal 102 = .ok (.iload 4, 2) := by decide +kernel
theorem dX0_toDecimal_104 : decode cX0_toDecimal 104 = .ok (.ifCond .eq 16, 3) := by decide +kernel
theorem dX0_toDecimal_107 : decode cX0_toDecimal 107 = .ok (.iload_n 2, 1) := by decide +kernel
theorem dX0_toDecimal_108 : decode cX0_toDecimal 108 = .ok (.bipush 6, 2) := by decide +kernel
theorem dX0_toDecimal_110 : decode cX0_toDecimal 110 = .ok (.iadd, 1) := by decide +kernel
theorem dX0_toDecimal_111 : decode cX0_toDecimal 111 = .ok (.bipush 15, 2) := by decide +kernel
theorem dX0_toDecimal_113 : decode cX0_toDecimal 113 = .ok (.if_icmp .le 7, 3) := by decide +kernel
theorem dX0_toDecimal_116 : decode cX0_toDecimal 116 = .ok (.iconst 1, 1) := by decide +kernel
theorem dX0_toDecimal_117 : decode cX0_toDecimal 117 = .ok (.goto 4, 3) := by decide +kernel
theorem dX0_toDecimal_120 : decode cX0_toDecimal 120 = .ok (.iconst 0, 1) := by decide +kernel
theorem dX0_toDecimal_121 : decode cX0_toDecimal 121 = .ok (.invokevirtual 36, 3) := by decide +kernel
theorem dX0_toDecimal_124 : decode cX0_toDecimal 124 = .ok (.aload_n 0, 1) := by decide +kernel
theorem dX0_toDecimal_125 : decode cX0_toDecimal 125 = .ok (.getfield 9, 3) := by decide +kernel
theorem dX0_toDecimal_128 : decode cX0_toDecimal 128 = .ok (.iload 5, 2) := by decide +kernel
theorem dX0_toDecimal_130 : decode cX0_toDecimal 130 = .ok (.invokevirtual 32, 3) := by decide +kernel
theorem dX0_toDecimal_133 : decode cX0_toDecimal 133 = .ok (.aload_n 0, 1) := by decide +kernel
theorem dX0_toDecimal_134 : decode cX0_toDecimal 134 = .ok (.getfield 9, 3) := by decide +kernel
theorem dX0_toDecimal_137 : decode cX0_toDecimal 137 = .ok (.iload 6, 2) := by decide +kernel
theorem dX0_toDecimal_139 : decode cX0_toDecimal 139 = .ok (.invokevirtual 39, 3) := by decide +kernel
theorem dX0_toDecimal_142 : decode cX0_toDecimal 142 = .ok (.iload 6, 2) := by decide +kernel
theorem dX0_toDecimal_144 : decode cX0_toDecimal 144 = .ok (.ireturn, 1) := by decide +kernel
theorem dX1_init_0 : decode cX1_init 0 = .ok (.aload_n 0, 1) := by decide +kernel
theorem dX1_init_1 : decode cX1_init 1 = .ok (.invokespecial 5, 3) := by decide +kernel
theorem dX1_init_4 : decode cX1_init 4 = .ok (.aload_n 0, 1) := by decide +kernel
theorem dX1_init_5 : decode cX1_init 5 = .ok (.bipush 64, 2) := by decide +kernel
theorem dX1_init_7 : decode cX1_init 7 = .ok (.newarray .int, 2) := by decide +kernel
theorem dX1_init_9 : decode cX1_init 9 = .ok (.putfield 11, 3) := by decide +kernel
theorem dX1_init_12 : decode cX1_init 12 = .ok (.aload_n 0, 1) := by decide +kernel
theorem dX1_init_13 : decode cX1_init 13 = .ok (.sipush 256, 3) := by decide +kernel
theorem dX1_init_16 : decode cX1_init 16 = .ok (.newarray .int, 2) := by decide +kernel
theorem dX1_init_18 : decode cX1_init 18 = .ok (.putfield 15, 3) := by decide +kernel
theorem dX1_init_21 : decode cX1_init 21 = .ok (.return_, 1) := by decide +kernel
theorem dX1_takeKey_0 : decode cX1_takeKey 0 = .ok (.aload_n 0, 1) := by decide +kernel
theorem dX1_takeKey_1 : decode cX1_takeKey 1 = .ok (.getfield 18, 3) := by decide +kernel
theorem dX1_takeKey_4 : decode cX1_takeKey 4 = .ok (.bipush 64, 2) := by decide +kernel
theorem dX1_takeKey_6 : decode cX1_takeKey 6 = .ok (.if_icmp .lt 5, 3) := by decide +kernel
theorem dX1_takeKey_9 : decode cX1_takeKey 9 = .ok (.iconst (-1), 1) := by decide +kernel
theorem dX1_takeKey_10 : decode cX1_takeKey 10 = .ok (.ireturn, 1) := by decide +kernel
theorem dX1_takeKey_11 : decode cX1_takeKey 11 = .ok (.aload_n 0, 1) := by decide +kernel
theorem dX1_takeKey_12 : decode cX1_takeKey 12 = .ok (.getfield 11, 3) := by decide +kernel
theorem dX1_takeKey_15 : decode cX1_takeKey 15 = .ok (.aload_n 0, 1) := by decide +kernel
theorem dX1_takeKey_16 : decode cX1_takeKey 16 = .ok (.getfield 22, 3) := by decide +kernel
theorem dX1_takeKey_19 : decode cX1_takeKey 19 = .ok (.aload_n 0, 1) := by decide +kernel
theorem dX1_takeKey_20 : decode cX1_takeKey 20 = .ok (.getfield 18, 3) := by decide +kernel
theorem dX1_takeKey_23 : decode cX1_takeKey 23 = .ok (.iadd, 1) := by decide +kernel
theorem dX1_takeKey_24 : decode cX1_takeKey 24 = .ok (.bipush 64, 2) := by decide +kernel
theorem dX1_takeKey_26 : decode cX1_takeKey 26 = .ok (.irem, 1) := by decide +kernel
theorem dX1_takeKey_27 : decode cX1_takeKey 27 = .ok (.iload_n 1, 1) := by decide +kernel
theorem dX1_takeKey_28 : decode cX1_takeKey 28 = .ok (.iastore, 1) := by decide +kernel
theorem dX1_takeKey_29 : decode cX1_takeKey 29 = .ok (.aload_n 0, 1) := by decide +kernel
theorem dX1_takeKey_30 : decode cX1_takeKey 30 = .ok (.dup, 1) := by decide +kernel
theorem dX1_takeKey_31 : decode cX1_takeKey 31 = .ok (.getfield 18, 3) := by decide +kernel
theorem dX1_takeKey_34 : decode cX1_takeKey 34 = .ok (.iconst 1, 1) := by decide +kernel
theorem dX1_takeKey_35 : decode cX1_takeKey 35 = .ok (.iadd, 1) := by decide +kernel
theorem dX1_takeKey_36 : decode cX1_takeKey 36 = .ok (.putfield 18, 3) := by decide +kernel
theorem dX1_takeKey_39 : decode cX1_takeKey 39 = .ok (.aload_n 0, 1) := by decide +kernel
theorem dX1_takeKey_40 : decode cX1_takeKey 40 = .ok (.getfield 18, 3) := by decide +kernel
theorem dX1_takeKey_43 : decode cX1_takeKey 43 = .ok (.ireturn, 1) := by decide +kernel
theorem dX1_hasInput_0 : decode cX1_hasInput 0 = .ok (.aload_n 0, 1) := by decide +kernel
theorem dX1_hasInput_1 : decode cX1_hasInput 1 = .ok (.getfield 18, 3) := by decide +kernel
theorem dX1_hasInput_4 : decode cX1_hasInput 4 = .ok (.ifCond .le 7, 3) := by decide +kernel
theorem dX1_hasInput_7 : decode cX1_hasInput 7 = .ok (.iconst 1, 1) := by decide +kernel
theorem dX1_hasInput_8 : decode cX1_hasInput 8 = .ok (.goto 4, 3) := by decide +kernel
theorem dX1_hasInput_11 : decode cX1_hasInput 11 = .ok (.iconst 0, 1) := by decide +kernel
theorem dX1_hasInput_12 : decode cX1_hasInput 12 = .ok (.ireturn, 1) := by decide +kernel
theorem dX1_nextInput_0 : decode cX1_nextInput 0 = .ok (.aload_n 0, 1) := by decide +kernel
theorem dX1_nextInput_1 : decode cX1_nextInput 1 = .ok (.getfield 18, 3) := by decide +kernel
theorem dX1_nextInput_4 : decode cX1_nextInput 4 = .ok (.ifCond .ne 5, 3) := by decide +kernel
theorem dX1_nextInput_7 : decode cX1_nextInput 7 = .ok (.iconst 0, 1) := by decide +kernel
theorem dX1_nextInput_8 : decode cX1_nextInput 8 = .ok (.ireturn, 1) := by decide +kernel
theorem dX1_nextInput_9 : decode cX1_nextInput 9 = .ok (.aload_n 0, 1) := by decide +kernel
theorem dX1_nextInput_10 : decode cX1_nextInput 10 = .ok (.getfield 11, 3) := by decide +kernel
theorem dX1_nextInput_13 : decode cX1_nextInput 13 = .ok (.aload_n 0, 1) := by decide +kernel
theorem dX1_nextInput_14 : decode cX1_nextInput 14 = .ok (.getfield 22, 3) := by decide +kernel
theorem dX1_nextInput_17 : decode cX1_nextInput 17 = .ok (.iaload, 1) := by decide +kernel
theorem dX1_nextInput_18 : decode cX1_nextInput 18 = .ok (.istore_n 1, 1) := by decide +kernel
theorem dX1_nextInput_19 : decode cX1_nextInput 19 = .ok (.aload_n 0, 1) := by decide +kernel
theorem dX1_nextInput_20 : decode cX1_nextInput 20 = .ok (.aload_n 0, 1) := by decide +kernel
theorem dX1_nextInput_21 : decode cX1_nextInput 21 = .ok (.getfield 22, 3) := by decide +kernel
theorem dX1_nextInput_24 : decode cX1_nextInput 24 = .ok (.iconst 1, 1) := by decide +kernel
