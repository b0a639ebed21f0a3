theorem dX4_transfer_23 : decode cX4_transfer 23 = .ok (.iload_n 2, 1) := by decide +kernel
theorem dX4_transfer_24 : decode cX4_transfer 24 = .ok (.invokevirtual 101, 3) := by decide +kernel
theorem dX4_transfer_27 : decode cX4_transfer 27 = .ok (.invokevirtual 123, 3) := by decide +kernel
theorem dX4_transfer_30 : decode cX4_transfer 30 = .ok (.iload_n 1, 1) := by decide +kernel
theorem dX4_transfer_31 : decode cX4_transfer 31 = .ok (.bipush 6, 2) := by decide +kernel
theorem dX4_transfer_33 : decode cX4_transfer 33 = .ok (.if_icmp .eq 9, 3) := by decide +kernel
theorem dX4_transfer_36 : decode cX4_transfer 36 = .ok (.iload_n 2, 1) := by decide +kernel
theorem dX4_transfer_37 : decode cX4_transfer 37 = .ok (.bipush 6, 2) := by decide +kernel
theorem dX4_transfer_39 : decode cX4_transfer 39 = .ok (.if_icmp .ne 8, 3) := by decide +kernel
theorem dX4_transfer_42 : decode cX4_transfer 42 = .ok (.bipush 7, 2) := by decide +kernel
theorem dX4_transfer_44 : decode cX4_transfer 44 = .ok (.goto 4, 3) := by decide +kernel
theorem dX4_transfer_47 : decode cX4_transfer 47 = .ok (.iconst 5, 1) := by decide +kernel
theorem dX4_transfer_48 : decode cX4_transfer 48 = .ok (.ireturn, 1) := by decide +kernel
set_option maxRecDepth 20000 in
theorem ggX4_lastQuarter_X4_returnIf : GoodIn wsX4_lastQuarter wsX4_returnIf := goodIn_r _ [9, 1, 4, 10, 11, 12, 13, 14, 15, 16, 17, 18, 19, 20, 21, 8, 22, 23, 24, 25, 26, 27, 28, 29, 30, 31, 211, 212, 213, 214, 215, 216, 217, 218, 219, 220, 221, 222, 223, 224, 225, 226, 227, 228, 229] (by decide +kernel) (by decide +kernel)
set_option maxRecDepth 20000 in
theorem gX4_lastQuarter_X4_returnIf : GoodIn wsX4_lastQuarter (wsV RX4 160 RX4 yX4_returnIf wsX4_returnIf) := goodIn_app (goodIn_of _ (by decide +kernel)) ggX4_lastQuarter_X4_returnIf
set_option maxRecDepth 20000 in
theorem ggX4_lastQuarter_X4_popOrReturn : GoodIn wsX4_lastQuarter wsX4_popOrReturn := goodIn_r _ [35, 4, 24, 19, 20, 21, 8, 22, 23, 25, 26, 27, 28, 29, 30, 31, 36, 37, 38, 39, 2, 40, 41, 42, 43, 1, 44, 45, 46, 13, 47, 18, 15, 48, 17, 16, 49, 50, 51, 52, 211, 212, 213, 214, 215, 216, 217, 218, 219, 220, 221, 222, 223, 229, 224, 225, 226, 227, 228] (by decide +kernel) (by decide +kernel)
set_option maxRecDepth 20000 in
theorem gX4_lastQuarter_X4_popOrReturn : GoodIn wsX4_lastQuarter (wsV RX4 163 RX4 yX4_popOrReturn wsX4_popOrReturn) := goodIn_app (goodIn_of _ (by decide +kernel)) ggX4_lastQuarter_X4_popOrReturn
set_option maxRecDepth 20000 in
theorem ggX4_lastQuarter_X3_holds : GoodIn wsX4_lastQuarter wsX3_holds := goodIn_r _ [14, 15, 16, 17, 18, 224, 225, 226, 227, 228] (by decide +kernel) (by decide +kernel)
set_option maxRecDepth 20000 in
theorem gX4_lastQuarter_X3_holds : GoodIn wsX4_lastQuarter (wsV RX4 166 RX3 yX3_holds wsX3_holds) := goodIn_app (goodIn_of _ (by decide +kernel)) ggX4_lastQuarter_X3_holds
set_option maxRecDepth 20000 in
theorem ggX4_lastQuarter_X4_jumpIf : GoodIn wsX4_lastQuarter wsX4_jumpIf := goodIn_r _ [56, 4, 57, 58, 59, 8, 60, 23, 25, 26, 27, 28, 29, 30, 31, 211, 212, 213, 214, 215, 216, 217, 218, 219, 220, 221, 222, 223, 229] (by decide +kernel) (by decide +kernel)
set_option maxRecDepth 20000 in
theorem gX4_lastQuarter_X4_jumpIf : GoodIn wsX4_lastQuarter (wsV RX4 170 RX4 yX4_jumpIf wsX4_jumpIf) := goodIn_app (goodIn_of _ (by decide +kernel)) ggX4_lastQuarter_X4_jumpIf
set_option maxRecDepth 20000 in
theorem ggX4_lastQuarter_X4_portOrExchange : GoodIn wsX4_lastQuarter wsX4_portOrExchange := goodIn_r _ [64, 2, 65, 66, 67, 68, 69, 8, 70, 23, 4, 25, 71, 72, 73, 29, 74, 31, 75, 76, 77, 78, 79, 80, 81, 82, 83, 84, 85, 86, 87, 88, 89, 90, 91, 92, 93, 94, 95, 96, 97, 98, 99, 100, 101, 102, 103, 104, 105, 106, 107, 108, 109, 110, 111, 112, 113, 114, 115, 116, 117, 118, 119, 120, 121, 122, 123, 124, 125, 126, 127, 128, 129, 130, 131, 132, 133, 134, 135, 136, 137, 138, 139, 140, 141, 142, 143, 144, 145, 24, 26, 27, 28, 30, 36, 37, 38, 39, 146, 147, 148, 149, 49, 50, 51, 52, 150, 151, 152, 153, 211, 212, 213, 214, 215, 216, 217, 218, 219, 220, 221, 222, 223, 229, 230, 231, 232, 233, 234, 235, 236, 237, 238, 239, 240, 241, 242, 243, 244, 245] (by decide +kernel) (by decide +kernel)
set_option maxRecDepth 20000 in
theorem gX4_lastQuarter_X4_portOrExchange : GoodIn wsX4_lastQuarter (wsV RX4 174 RX4 yX4_portOrExchange wsX4_portOrExchange) := goodIn_app (goodIn_of _ (by decide +kernel)) ggX4_lastQuarter_X4_portOrExchange
set_option maxRecDepth 20000 in
theorem ggX4_lastQuarter_X4_callIf : GoodIn wsX4_lastQuarter wsX4_callIf := goodIn_r _ [157, 4, 57, 58, 59, 8, 60, 23, 25, 26, 27, 28, 29, 30, 31, 158, 159, 160, 161, 24, 146, 147, 148, 149, 211, 212, 213, 214, 215, 216, 217, 218, 219, 220, 221, 222, 223, 229] (by decide +kernel) (by decide +kernel)
set_option maxRecDepth 20000 in
theorem gX4_lastQuarter_X4_callIf : GoodIn wsX4_lastQuarter (wsV RX4 177 RX4 yX4_callIf wsX4_callIf) := goodIn_app (goodIn_of _ (by decide +kernel)) ggX4_lastQuarter_X4_callIf
set_option maxRecDepth 20000 in
theorem ggX4_lastQuarter_X4_pushPair : GoodIn wsX4_lastQuarter wsX4_pushPair := goodIn_r _ [165, 2, 1, 166, 167, 168, 13, 169, 18, 15, 48, 17, 16, 36, 37, 38, 8, 39, 24, 158, 159, 160, 161, 25, 23, 146, 147, 148, 29, 149, 31, 211, 212, 213, 214, 215, 216, 217, 218, 219, 220, 221, 222, 223, 224, 225, 226, 227, 228, 229] (by decide +kernel) (by decide +kernel)
set_option maxRecDepth 20000 in
theorem gX4_lastQuarter_X4_pushPair : GoodIn wsX4_lastQuarter (wsV RX4 180 RX4 yX4_pushPair wsX4_pushPair) := goodIn_app (goodIn_of _ (by decide +kernel)) ggX4_lastQuarter_X4_pushPair
set_option maxRecDepth 20000 in
theorem ggX4_lastQuarter_X4_nextByte : GoodIn wsX4_lastQuarter wsX4_nextByte := goodIn_r _ [70, 23, 4, 25, 71, 72, 73, 29, 74, 31, 211, 212, 213, 214, 215, 216, 217, 218, 219, 220, 221, 222, 223, 229] (by decide +kernel) (by decide +kernel)
set_option maxRecDepth 20000 in
theorem gX4_lastQuarter_X4_nextByte : GoodIn wsX4_lastQuarter (wsV RX4 91 RX4 yX4_nextByte wsX4_nextByte) := goodIn_app (goodIn_of _ (by decide +kernel)) ggX4_lastQuarter_X4_nextByte
set_option maxRecDepth 20000 in
theorem ggX4_lastQuarter_X0_combine : GoodIn wsX4_lastQuarter wsX0_combine := goodIn_r _ [174, 175, 176, 177, 178, 173, 179, 180, 181, 182, 13, 183, 16, 184, 185, 186, 187, 48, 188, 189, 190, 191, 18, 15, 17, 192, 193, 194, 195, 196, 197, 198, 199, 200, 201, 202, 203, 204, 205, 206, 207, 208, 209, 210, 246, 224, 225, 226, 227, 228] (by decide +kernel) (by decide +kernel)
set_option maxRecDepth 20000 in
theorem gX4_lastQuarter_X0_combine : GoodIn wsX4_lastQuarter (wsV RX4 104 RX0 yX0_combine wsX0_combine) := goodIn_app (goodIn_of _ (by decide +kernel)) ggX4_lastQuarter_X0_combine
set_option maxRecDepth 20000 in
theorem ggX4_lastQuarter_X4_push : GoodIn wsX4_lastQuarter wsX4_push := goodIn_r _ [161, 24, 25, 23, 146, 147, 148, 29, 149, 31, 211, 212, 213, 214, 215, 216, 217, 218, 219, 220, 221, 222, 223, 229] (by decide +kernel) (by decide +kernel)
set_option maxRecDepth 20000 in
theorem gX4_lastQuarter_X4_push : GoodIn wsX4_lastQuarter (wsV RX4 88 RX4 yX4_push wsX4_push) := goodIn_app (goodIn_of _ (by decide +kernel)) ggX4_lastQuarter_X4_push
theorem dX4_lastQuarter_0 : decode cX4_lastQuarter 0 = .ok (.iload_n 2, 1) := by decide +kernel
theorem dX4_lastQuarter_1 : decode cX4_lastQuarter 1 = .ok (.tableswitch 149 0 6 #[43, 49, 55, 68, 87, 100, 120], 43) := by decide +kernel
theorem dX4_lastQuarter_44 : decode cX4_lastQuarter 44 = .ok (.aload_n 0, 1) := by decide +kernel
theorem dX4_lastQuarter_45 : decode cX4_lastQuarter 45 = .ok (.iload_n 1, 1) := by decide +kernel
theorem dX4_lastQuarter_46 : decode cX4_lastQuarter 46 = .ok (.invokevirtual 160, 3) := by decide +kernel
theorem dX4_lastQuarter_49 : decode cX4_lastQuarter 49 = .ok (.ireturn, 1) := by decide +kernel
theorem dX4_lastQuarter_50 : decode cX4_lastQuarter 50 = .ok (.aload_n 0, 1) := by decide +kernel
theorem dX4_lastQuarter_51 : decode cX4_lastQuarter 51 = .ok (.iload_n 1, 1) := by decide +kernel
theorem dX4_lastQuarter_52 : decode cX4_lastQuarter 52 = .ok (.invokevirtual 163, 3) := by decide +kernel
theorem dX4_lastQuarter_55 : decode cX4_lastQuarter 55 = .ok (.ireturn, 1) := by decide +kernel
theorem dX4_lastQuarter_56 : decode cX4_lastQuarter 56 = .ok (.aload_n 0, 1) := by decide +kernel
theorem dX4_lastQuarter_57 : decode cX4_lastQuarter 57 = .ok (.aload_n 0, 1) := by decide +kernel
theorem dX4_lastQuarter_58 : decode cX4_lastQuarter 58 = .ok (.getfield 12, 3) := by decide +kernel
theorem dX4_lastQuarter_61 : decode cX4_lastQuarter 61 = .ok (.iload_n 1, 1) := by decide +kernel
theorem dX4_lastQuarter_62 : decode cX4_lastQuarter 62 = .ok (.invokevirtual 166, 3) := by decide +kernel
theorem dX4_lastQuarter_65 : decode cX4_lastQuarter 65 = .ok (.invokevirtual 170, 3) := by decide +kernel
theorem dX4_lastQuarter_68 : decode cX4_lastQuarter 68 = .ok (.ireturn, 1) := by decide +kernel
theorem dX4_lastQuarter_69 : decode cX4_lastQuarter 69 = .ok (.iload_n 1, 1) := by decide +kernel
theorem dX4_lastQuarter_70 : decode cX4_lastQuarter 70 = .ok (.iconst 2, 1) := by decide +kernel
theorem dX4_lastQuarter_71 : decode cX4_lastQuarter 71 = .ok (.if_icmp .ge 11, 3) := by decide +kernel
theorem dX4_lastQuarter_74 : decode cX4_lastQuarter 74 = .ok (.aload_n 0, 1) := by decide +kernel
theorem dX4_lastQuarter_75 : decode cX4_lastQuarter 75 = .ok (.iconst 1, 1) := by decide +kernel
theorem dX4_lastQuarter_76 : decode cX4_lastQuarter 76 = .ok (.invokevirtual 170, 3) := by decide +kernel
theorem dX4_lastQuarter_79 : decode cX4_lastQuarter 79 = .ok (.goto 8, 3) := by decide +kernel
theorem dX4_lastQuarter_82 : decode cX4_lastQuarter 82 = .ok (.aload_n 0, 1) := by decide +kernel
theorem dX4_lastQuarter_83 : decode cX4_lastQuarter 83 = .ok (.iload_n 1, 1) := by decide +kernel
theorem dX4_lastQuarter_84 : decode cX4_lastQuarter 84 = .ok (.invokevirtual 174, 3) := by decide +kernel
theorem dX4_lastQuarter_87 : decode cX4_lastQuarter 87 = .ok (.ireturn, 1) := by decide +kernel
theorem dX4_lastQuarter_88 : decode cX4_lastQuarter 88 = .ok (.aload_n 0, 1) := by decide +kernel
theorem dX4_lastQuarter_89 : decode cX4_lastQuarter 89 = .ok (.aload_n 0, 1) := by decide +kernel
theorem dX4_lastQuarter_90 : decode cX4_lastQuarter 90 = .ok (.getfield 12, 3) := by decide +kernel
theorem dX4_lastQuarter_93 : decode cX4_lastQuarter 93 = .ok (.iload_n 1, 1) := by decide +kernel
theorem dX4_lastQuarter_94 : decode cX4_lastQuarter 94 = .ok (.invokevirtual 166, 3) := by decide +kernel
theorem dX4_lastQuarter_97 : decode cX4_lastQuarter 97 = .ok (.invokevirtual 177, 3) := by decide +kernel
theorem dX4_lastQuarter_100 : decode cX4_lastQuarter 100 = .ok (.ireturn, 1) := by decide +kernel
theorem dX4_lastQuarter_101 : decode cX4_lastQuarter 101 = .ok (.iload_n 1, 1) := by decide +kernel
theorem dX4_lastQuarter_102 : decode cX4_lastQuarter 102 = .ok (.iconst 1, 1) := by decide +kernel
theorem dX4_lastQuarter_103 : decode cX4_lastQuarter 103 = .ok (.iand, 1) := by decide +kernel
theorem dX4_lastQuarter_104 : decode cX4_lastQuarter 104 = .ok (.ifCond .ne 11, 3) := by decide +kernel
theorem dX4_lastQuarter_107 : decode cX4_lastQuarter 107 = .ok (.aload_n 0, 1) := by decide +kernel
theorem dX4_lastQuarter_108 : decode cX4_lastQuarter 108 = .ok (.iload_n 1, 1) := by decide +kernel
theorem dX4_lastQuarter_109 : decode cX4_lastQuarter 109 = .ok (.invokevirtual 180, 3) := by decide +kernel
theorem dX4_lastQuarter_112 : decode cX4_lastQuarter 112 = .ok (.goto 8, 3) := by decide +kernel
theorem dX4_lastQuarter_115 : decode cX4_lastQuarter 115 = .ok (.aload_n 0, 1) := by decide +kernel
theorem dX4_lastQuarter_116 : decode cX4_lastQuarter 116 = .ok (.iconst 1, 1) := by decide +kernel
theorem dX4_lastQuarter_117 : decode cX4_lastQuarter 117 = .ok (.invokevirtual 177, 3) := by decide +kernel
theorem dX4_lastQuarter_120 : decode cX4_lastQuarter 120 = .ok (.ireturn, 1) := by decide +kernel
theorem dX4_lastQuarter_121 : decode cX4_lastQuarter 121 = .ok (.aload_n 0, 1) := by decide +kernel
theorem dX4_lastQuarter_122 : decode cX4_lastQuarter 122 = .ok (.getfield 27, 3) := by decide +kernel
theorem dX4_lastQuarter_125 : decode cX4_lastQuarter 125 = .ok (.bipush 7, 2) := by decide +kernel
theorem dX4_lastQuarter_127 : decode cX4_lastQuarter 127 = .ok (.aload_n 0, 1) := by decide +kernel
theorem dX4_lastQuarter_128 : decode cX4_lastQuarter 128 = .ok (.getfield 23, 3) := by decide +kernel
theorem dX4_lastQuarter_131 : decode cX4_lastQuarter 131 = .ok (.iload_n 1, 1) := by decide +kernel
theorem dX4_lastQuarter_132 : decode cX4_lastQuarter 132 = .ok (.aload_n 0, 1) := by decide +kernel
theorem dX4_lastQuarter_133 : decode cX4_lastQuarter 133 = .ok (.getfield 27, 3) := by decide +kernel
theorem dX4_lastQuarter_136 : decode cX4_lastQuarter 136 = .ok (.bipush 7, 2) := by decide +kernel
theorem dX4_lastQuarter_138 : decode cX4_lastQuarter 138 = .ok (.iaload, 1) := by decide +kernel
theorem dX4_lastQuarter_139 : decode cX4_lastQuarter 139 = .ok (.aload_n 0, 1) := by decide +kernel
theorem dX4_lastQuarter_140 : decode cX4_lastQuarter 140 = .ok (.invokevirtual 91, 3) := by decide +kernel
theorem dX4_lastQuarter_143 : decode cX4_lastQuarter 143 = .ok (.invokevirtual 104, 3) := by decide +kernel
theorem dX4_lastQuarter_146 : decode cX4_lastQuarter 146 = .ok (.iastore, 1) := by decide +kernel
theorem dX4_lastQuarter_147 : decode cX4_lastQuarter 147 = .ok (.bipush 7, 2) := by decide +kernel
theorem dX4_lastQuarter_149 : decode cX4_lastQuarter 149 = .ok (.ireturn, 1) := by decide +kernel
theorem dX4_lastQuarter_150 : decode cX4_lastQuarter 150 = .ok (.aload_n 0, 1) := by decide +kernel
theorem dX4_lastQuarter_151 : decode cX4_lastQuarter 151 = .ok (.aload_n 0, 1) := by decide +kernel
theorem dX4_lastQuarter_152 : decode cX4_lastQuarter 152 = .ok (.getfield 51, 3) := by decide +kernel
theorem dX4_lastQuarter_155 : decode cX4_lastQuarter 155 = .ok (.invokevirtual 88, 3) := by decide +kernel
theorem dX4_lastQuarter_158 : decode cX4_lastQuarter 158 = .ok (.aload_n 0, 1) := by decide +kernel
theorem dX4_lastQuarter_159 : decode cX4_lastQuarter 159 = .ok (.bipush 8, 2) := by decide +kernel
theorem dX4_lastQuarter_161 : decode cX4_lastQuarter 161 = .ok (.iload_n 1, 1) := by decide +kernel
theorem dX4_lastQuarter_162 : decode cX4_lastQuarter 162 = .ok (.imul, 1) := by decide +kernel
theorem dX4_lastQuarter_163 : decode cX4_lastQuarter 163 = .ok (.putfield 51, 3) := by decide +kernel
theorem dX4_lastQuarter_166 : decode cX4_lastQuarter 166 = .ok (.bipush 11, 2) := by decide +kernel
theorem dX4_lastQuarter_168 : decode cX4_lastQuarter 168 = .ok (.ireturn, 1) := by decide +kernel
set_option maxRecDepth 20000 in
theorem ggX4_returnIf_X3_holds : GoodIn wsX4_returnIf wsX3_holds := goodIn_r _ [7, 8, 9, 10, 11, 39, 40, 41, 42, 43] (by decide +kernel) (by decide +kernel)
set_option maxRecDepth 20000 in
theorem gX4_returnIf_X3_holds : GoodIn wsX4_returnIf (wsV RX4 166 RX3 yX3_holds wsX3_holds) := goodIn_app (goodIn_of _ (by decide +kernel)) ggX4_returnIf_X3_holds
set_option maxRecDepth 20000 in
theorem ggX4_returnIf_X4_pop : GoodIn wsX4_returnIf wsX4_pop := goodIn_r _ [16, 17, 18, 19, 20, 21, 22, 23, 24, 25, 26, 27, 28, 29, 30, 31, 32, 33, 34, 35, 36, 37, 38, 44] (by decide +kernel) (by decide +kernel)
set_option maxRecDepth 20000 in
theorem gX4_returnIf_X4_pop : GoodIn wsX4_returnIf (wsV RX4 183 RX4 yX4_pop wsX4_pop) := goodIn_app (goodIn_of _ (by decide +kernel)) ggX4_returnIf_X4_pop
theorem dX4_returnIf_0 : decode cX4_returnIf 0 = .ok (.aload_n 0, 1) := by decide +kernel
theorem dX4_returnIf_1 : decode cX4_returnIf 1 = .ok (.getfield 12, 3) := by decide +kernel
theorem dX4_returnIf_4 : decode cX4_returnIf 4 = .ok (.iload_n 1, 1) := by decide +kernel
theorem dX4_returnIf_5 : decode cX4_returnIf 5 = .ok (.invokevirtual 166, 3) := by decide +kernel
theorem dX4_returnIf_8 : decode cX4_returnIf 8 = .ok (.ifCond .ne 5, 3) := by decide +kernel
theorem dX4_returnIf_11 : decode cX4_returnIf 11 = .ok (.iconst 5, 1) := by decide +kernel
theorem dX4_returnIf_12 : decode cX4_returnIf 12 = .ok (.ireturn, 1) := by decide +kernel
theorem dX4_returnIf_13 : decode cX4_returnIf 13 = .ok (.aload_n 0, 1) := by decide +kernel
theorem dX4_returnIf_14 : decode cX4_returnIf 14 = .ok (.aload_n 0, 1) := by decide +kernel
theorem dX4_returnIf_15 : decode cX4_returnIf 15 = .ok (.invokevirtual 183, 3) := by decide +kernel
theorem dX4_returnIf_18 : decode cX4_returnIf 18 = .ok (.putfield 51, 3) := by decide +kernel
theorem dX4_returnIf_21 : decode cX4_returnIf 21 = .ok (.bipush 11, 2) := by decide +kernel
theorem dX4_returnIf_23 : decode cX4_returnIf 23 = .ok (.ireturn, 1) := by decide +kernel
set_option maxRecDepth 20000 in
theorem ggX4_popOrReturn_X4_pop : GoodIn wsX4_popOrReturn wsX4_pop := goodIn_r _ [7, 8, 2, 9, 10, 11, 12, 13, 14, 15, 40, 41, 42, 43, 44, 45, 46, 47, 48, 49, 50, 51, 52, 53] (by decide +kernel) (by decide +kernel)
set_option maxRecDepth 20000 in
theorem gX4_popOrReturn_X4_pop : GoodIn wsX4_popOrReturn (wsV RX4 183 RX4 yX4_pop wsX4_pop) := goodIn_app (goodIn_of _ (by decide +kernel)) ggX4_popOrReturn_X4_pop
set_option maxRecDepth 20000 in
theorem ggX4_popOrReturn_X4_pair : GoodIn wsX4_popOrReturn wsX4_pair := goodIn_r _ [19, 2, 20, 40, 41, 42, 43, 44, 45, 46, 47, 48, 49, 50, 51, 52] (by decide +kernel) (by decide +kernel)
set_option maxRecDepth 20000 in
theorem gX4_popOrReturn_X4_pair : GoodIn wsX4_popOrReturn (wsV RX4 139 RX4 yX4_pair wsX4_pair) := goodIn_app (goodIn_of _ (by decide +kernel)) ggX4_popOrReturn_X4_pair
set_option maxRecDepth 20000 in
theorem ggX4_popOrReturn_X4_popAccumulator : GoodIn wsX4_popOrReturn wsX4_popAccumulator := goodIn_r _ [24, 20, 25, 3, 4, 5, 6, 7, 8, 2, 9, 10, 11, 12, 13, 14, 15, 26, 27, 28, 29, 30, 31, 32, 33, 34, 35, 40, 41, 42, 43, 44, 45, 46, 47, 48, 49, 50, 51, 52, 53, 54, 55, 56, 57, 58] (by decide +kernel) (by decide +kernel)
set_option maxRecDepth 20000 in
theorem gX4_popOrReturn_X4_popAccumulator : GoodIn wsX4_popOrReturn (wsV RX4 186 RX4 yX4_popAccumulator wsX4_popAccumulator) := goodIn_app (goodIn_of _ (by decide +kernel)) ggX4_popOrReturn_X4_popAccumulator
set_option maxRecDepth 20000 in
theorem ggX4_popOrReturn_X4_setPair : GoodIn wsX4_popOrReturn wsX4_setPair := goodIn_r _ [39, 9, 2, 20, 40, 41, 42, 43, 44, 45, 46, 47, 48, 49, 50, 51, 52] (by decide +kernel) (by decide +kernel)
set_option maxRecDepth 20000 in
theorem gX4_popOrReturn_X4_setPair : GoodIn wsX4_popOrReturn (wsV RX4 136 RX4 yX4_setPair wsX4_setPair) := goodIn_app (goodIn_of _ (by decide +kernel)) ggX4_popOrReturn_X4_setPair
theorem dX4_popOrReturn_0 : decode cX4_popOrReturn 0 = .ok (.iload_n 1, 1) := by decide +kernel
theorem dX4_popOrReturn_1 : decode cX4_popOrReturn 1 = .ok (.tableswitch 81 1 7 #[43, 81, 43, 81, 54, 65, 70], 43) := by decide +kernel
theorem dX4_popOrReturn_44 : decode cX4_popOrReturn 44 = .ok (.aload_n 0, 1) := by decide +kernel
theorem dX4_popOrReturn_45 : decode cX4_popOrReturn 45 = .ok (.aload_n 0, 1) := by decide +kernel
theorem dX4_popOrReturn_46 : decode cX4_popOrReturn 46 = .ok (.invokevirtual 183, 3) := by decide +kernel
theorem dX4_popOrReturn_49 : decode cX4_popOrReturn 49 = .ok (.putfield 51, 3) := by decide +kernel
theorem dX4_popOrReturn_52 : decode cX4_popOrReturn 52 = .ok (.bipush 10, 2) := by decide +kernel
theorem dX4_popOrReturn_54 : decode cX4_popOrReturn 54 = .ok (.ireturn, 1) := by decide +kernel
theorem dX4_popOrReturn_55 : decode cX4_popOrReturn 55 = .ok (.aload_n 0, 1) := by decide +kernel
theorem dX4_popOrReturn_56 : decode cX4_popOrReturn 56 = .ok (.aload_n 0, 1) := by decide +kernel
theorem dX4_popOrReturn_57 : decode cX4_popOrReturn 57 = .ok (.iconst 2, 1) := by decide +kernel
theorem dX4_popOrReturn_58 : decode cX4_popOrReturn 58 = .ok (.invokevirtual 139, 3) := by decide +kernel
theorem dX4_popOrReturn_61 : decode cX4_popOrReturn 61 = .ok (.putfield 51, 3) := by decide +kernel
theorem dX4_popOrReturn_64 : decode cX4_popOrReturn 64 = .ok (.iconst 5, 1) := by decide +kernel
theorem dX4_popOrReturn_65 : decode cX4_popOrReturn 65 = .ok (.ireturn, 1) := by decide +kernel
theorem dX4_popOrReturn_66 : decode cX4_popOrReturn 66 = .ok (.aload_n 0, 1) := by decide +kernel
theorem dX4_popOrReturn_67 : decode cX4_popOrReturn 67 = .ok (.invokevirtual 186, 3) := by decide +kernel
theorem dX4_popOrReturn_70 : decode cX4_popOrReturn 70 = .ok (.ireturn, 1) := by decide +kernel
theorem dX4_popOrReturn_71 : decode cX4_popOrReturn 71 = .ok (.aload_n 0, 1) := by decide +kernel
theorem dX4_popOrReturn_72 : decode cX4_popOrReturn 72 = .ok (.aload_n 0, 1) := by decide +kernel
theorem dX4_popOrReturn_73 : decode cX4_popOrReturn 73 = .ok (.iconst 2, 1) := by decide +kernel
theorem dX4_popOrReturn_74 : decode cX4_popOrReturn 74 = .ok (.invokevirtual 139, 3) := by decide +kernel
theorem dX4_popOrReturn_77 : decode cX4_popOrReturn 77 = .ok (.putfield 54, 3) := by decide +kernel
theorem dX4_popOrReturn_80 : decode cX4_popOrReturn 80 = .ok (.iconst 5, 1) := by decide +kernel
theorem dX4_popOrReturn_81 : decode cX4_popOrReturn 81 = .ok (.ireturn, 1) := by decide +kernel
theorem dX4_popOrReturn_82 : decode cX4_popOrReturn 82 = .ok (.aload_n 0, 1) := by decide +kernel
theorem dX4_popOrReturn_83 : decode cX4_popOrReturn 83 = .ok (.iload_n 1, 1) := by decide +kernel
theorem dX4_popOrReturn_84 : decode cX4_popOrReturn 84 = .ok (.iconst 1, 1) := by decide +kernel
theorem dX4_popOrReturn_85 : decode cX4_popOrReturn 85 = .ok (.ishr, 1) := by decide +kernel
theorem dX4_popOrReturn_86 : decode cX4_popOrReturn 86 = .ok (.aload_n 0, 1) := by decide +kernel
theorem dX4_popOrReturn_87 : decode cX4_popOrReturn 87 = .ok (.invokevirtual 183, 3) := by decide +kernel
theorem dX4_popOrReturn_90 : decode cX4_popOrReturn 90 = .ok (.invokevirtual 136, 3) := by decide +kernel
theorem dX4_popOrReturn_93 : decode cX4_popOrReturn 93 = .ok (.bipush 10, 2) := by decide +kernel
theorem dX4_popOrReturn_95 : decode cX4_popOrReturn 95 = .ok (.ireturn, 1) := by decide +kernel
set_option maxRecDepth 20000 in
theorem ggX4_popAccumulator_X4_pop : GoodIn wsX4_popAccumulator wsX4_pop := goodIn_r _ [7, 8, 9, 10, 11, 12, 13, 14, 15, 16, 27, 28, 29, 30, 31, 32, 33, 34, 35, 36, 37, 38, 39, 40] (by decide +kernel) (by decide +kernel)
set_option maxRecDepth 20000 in
theorem gX4_popAccumulator_X4_pop : GoodIn wsX4_popAccumulator (wsV RX4 183 RX4 yX4_pop wsX4_pop) := goodIn_app (goodIn_of _ (by decide +kernel)) ggX4_popAccumulator_X4_pop
set_option maxRecDepth 20000 in
theorem ggX4_popAccumulator_X3_unpack : GoodIn wsX4_popAccumulator wsX3_unpack := goodIn_r _ [21, 22, 23, 24, 25, 26, 41, 42, 43, 44, 45] (by decide +kernel) (by decide +kernel)
set_option maxRecDepth 20000 in
theorem gX4_popAccumulator_X3_unpack : GoodIn wsX4_popAccumulator (wsV RX4 57 RX3 yX3_unpack wsX3_unpack) := goodIn_app (goodIn_of _ (by decide +kernel)) ggX4_popAccumulator_X3_unpack
theorem dX4_popAccumulator_0 : decode cX4_popAccumulator 0 = .ok (.aload_n 0, 1) := by decide +kernel
theorem dX4_popAccumulator_1 : decode cX4_popAccumulator 1 = .ok (.invokevirtual 183, 3) := by decide +kernel
theorem dX4_popAccumulator_4 : decode cX4_popAccumulator 4 = .ok (.istore_n 1, 1) := by decide +kernel
theorem dX4_popAccumulator_5 : decode cX4_popAccumulator 5 = .ok (.aload_n 0, 1) := by decide +kernel
theorem dX4_popAccumulator_6 : decode cX4_popAccumulator 6 = .ok (.getfield 27, 3) := by decide +kernel
theorem dX4_popAccumulator_9 : decode cX4_popAccumulator 9 = .ok (.bipush 7, 2) := by decide +kernel
theorem dX4_popAccumulator_11 : decode cX4_popAccumulator 11 = .ok (.iload_n 1, 1) := by decide +kernel
theorem dX4_popAccumulator_12 : decode cX4_popAccumulator 12 = .ok (.bipush 8, 2) := by decide +kernel
theorem dX4_popAccumulator_14 : decode cX4_popAccumulator 14 = .ok (.ishr, 1) := by decide +kernel
theorem dX4_popAccumulator_15 : decode cX4_popAccumulator 15 = .ok (.iastore, 1) := by decide +kernel
theorem dX4_popAccumulator_16 : decode cX4_popAccumulator 16 = .ok (.aload_n 0, 1) := by decide +kernel
theorem dX4_popAccumulator_17 : decode cX4_popAccumulator 17 = .ok (.getfield 12, 3) := by decide +kernel
theorem dX4_popAccumulator_20 : decode cX4_popAccumulator 20 = .ok (.iload_n 1, 1) := by decide +kernel
theorem dX4_popAccumulator_21 : decode cX4_popAccumulator 21 = .ok (.invokevirtual 57, 3) := by decide +kernel
theorem dX4_popAccumulator_24 : decode cX4_popAccumulator 24 = .ok (.bipush 10, 2) := by decide +kernel
theorem dX4_popAccumulator_26 : decode cX4_popAccumulator 26 = .ok (.ireturn, 1) := by decide +kernel
set_option maxRecDepth 20000 in
theorem ggX4_jumpIf_X4_nextWord : GoodIn wsX4_jumpIf wsX4_nextWord := goodIn_r _ [6, 7, 1, 8, 9, 10, 11, 12, 13, 14, 15, 16, 17, 18, 19, 20, 21, 22, 23, 24, 25, 26, 27, 28] (by decide +kernel) (by decide +kernel)
set_option maxRecDepth 20000 in
theorem gX4_jumpIf_X4_nextWord : GoodIn wsX4_jumpIf (wsV RX4 133 RX4 yX4_nextWord wsX4_nextWord) := goodIn_app (goodIn_of _ (by decide +kernel)) ggX4_jumpIf_X4_nextWord
theorem dX4_jumpIf_0 : decode cX4_jumpIf 0 = .ok (.aload_n 0, 1) := by decide +kernel
theorem dX4_jumpIf_1 : decode cX4_jumpIf 1 = .ok (.invokevirtual 133, 3) := by decide +kernel
theorem dX4_jumpIf_4 : decode cX4_jumpIf 4 = .ok (.istore_n 2, 1) := by decide +kernel
theorem dX4_jumpIf_5 : decode cX4_jumpIf 5 = .ok (.iload_n 1, 1) := by decide +kernel
theorem dX4_jumpIf_6 : decode cX4_jumpIf 6 = .ok (.ifCond .eq 8, 3) := by decide +kernel
theorem dX4_jumpIf_9 : decode cX4_jumpIf 9 = .ok (.aload_n 0, 1) := by decide +kernel
theorem dX4_jumpIf_10 : decode cX4_jumpIf 10 = .ok (.iload_n 2, 1) := by decide +kernel
theorem dX4_jumpIf_11 : decode cX4_jumpIf 11 = .ok (.putfield 51, 3) := by decide +kernel
theorem dX4_jumpIf_14 : decode cX4_jumpIf 14 = .ok (.bipush 10, 2) := by decide +kernel
theorem dX4_jumpIf_16 : decode cX4_jumpIf 16 = .ok (.ireturn, 1) := by decide +kernel
set_option maxRecDepth 20000 in
theorem ggX4_callIf_X4_nextWord : GoodIn wsX4_callIf wsX4_nextWord := goodIn_r _ [6, 7, 1, 8, 9, 10, 11, 12, 13, 14, 24, 25, 26, 27, 28, 29, 30, 31, 32, 33, 34, 35, 36, 37] (by decide +kernel) (by decide +kernel)
set_option maxRecDepth 20000 in
theorem gX4_callIf_X4_nextWord : GoodIn wsX4_callIf (wsV RX4 133 RX4 yX4_nextWord wsX4_nextWord) := goodIn_app (goodIn_of _ (by decide +kernel)) ggX4_callIf_X4_nextWord
set_option maxRecDepth 20000 in
theorem ggX4_callIf_X4_push : GoodIn wsX4_callIf wsX4_push := goodIn_r _ [18, 19, 8, 7, 20, 21, 22, 12, 23, 14, 24, 25, 26, 27, 28, 29, 30, 31, 32, 33, 34, 35, 36, 37] (by decide +kernel) (by decide +kernel)
set_option maxRecDepth 20000 in
theorem gX4_callIf_X4_push : GoodIn wsX4_callIf (wsV RX4 88 RX4 yX4_push wsX4_push) := goodIn_app (goodIn_of _ (by decide +kernel)) ggX4_callIf_X4_push
theorem dX4_callIf_0 : decode cX4_callIf 0 = .ok (.aload_n 0, 1) := by decide +kernel
theorem dX4_callIf_1 : decode cX4_callIf 1 = .ok (.invokevirtual 133, 3) := by decide +kernel
theorem dX4_callIf_4 : decode cX4_callIf 4 = .ok (.istore_n 2, 1) := by decide +kernel
theorem dX4_callIf_5 : decode cX4_callIf 5 = .ok (.iload_n 1, 1) := by decide +kernel
theorem dX4_callIf_6 : decode cX4_callIf 6 = .ok (.ifCond .ne 6, 3) := by decide +kernel
theorem dX4_callIf_9 : decode cX4_callIf 9 = .ok (.bipush 11, 2) := by decide +kernel
theorem dX4_callIf_11 : decode cX4_callIf 11 = .ok (.ireturn, 1) := by decide +kernel
theorem dX4_callIf_12 : decode cX4_callIf 12 = .ok (.aload_n 0, 1) := by decide +kernel
theorem dX4_callIf_13 : decode cX4_callIf 13 = .ok (.aload_n 0, 1) := by decide +kernel
theorem dX4_callIf_14 : decode cX4_callIf 14 = .ok (.getfield 51, 3) := by decide +kernel
theorem dX4_callIf_17 : decode cX4_callIf 17 = .ok (.invokevirtual 88, 3) := by decide +kernel
theorem dX4_callIf_20 : decode cX4_callIf 20 = .ok (.aload_n 0, 1) := by decide +kernel
theorem dX4_callIf_21 : decode cX4_callIf 21 = .ok (.iload_n 2, 1) := by decide +kernel
theorem dX4_callIf_22 : decode cX4_callIf 22 = .ok (.putfield 51, 3) := by decide +kernel
theorem dX4_callIf_25 : decode cX4_callIf 25 = .ok (.bipush 17, 2) := by decide +kernel
theorem dX4_callIf_27 : decode cX4_callIf 27 = .ok (.ireturn, 1) := by decide +kernel
set_option maxRecDepth 20000 in
theorem ggX4_pushPair_X3_packed : GoodIn wsX4_pushPair wsX3_packed := goodIn_r _ [7, 8, 9, 10, 11, 12, 44, 45, 46, 47, 48] (by decide +kernel) (by decide +kernel)
set_option maxRecDepth 20000 in
theorem gX4_pushPair_X3_packed : GoodIn wsX4_pushPair (wsV RX4 47 RX3 yX3_packed wsX3_packed) := goodIn_app (goodIn_of _ (by decide +kernel)) ggX4_pushPair_X3_packed
set_option maxRecDepth 20000 in
theorem ggX4_pushPair_X4_pair : GoodIn wsX4_pushPair wsX4_pair := goodIn_r _ [17, 18, 1, 31, 32, 33, 34, 35, 36, 37, 38, 39, 40, 41, 42, 43] (by decide +kernel) (by decide +kernel)
set_option maxRecDepth 20000 in
theorem gX4_pushPair_X4_pair : GoodIn wsX4_pushPair (wsV RX4 139 RX4 yX4_pair wsX4_pair) := goodIn_app (goodIn_of _ (by decide +kernel)) ggX4_pushPair_X4_pair
set_option maxRecDepth 20000 in
theorem ggX4_pushPair_X4_push : GoodIn wsX4_pushPair wsX4_push := goodIn_r _ [22, 18, 23, 24, 25, 26, 27, 28, 29, 30, 31, 32, 33, 34, 35, 36, 37, 38, 39, 40, 41, 42, 43, 49] (by decide +kernel) (by decide +kernel)
set_option maxRecDepth 20000 in
theorem gX4_pushPair_X4_push : GoodIn wsX4_pushPair (wsV RX4 88 RX4 yX4_push wsX4_push) := goodIn_app (goodIn_of _ (by decide +kernel)) ggX4_pushPair_X4_push
theorem dX4_pushPair_0 : decode cX4_pushPair 0 = .ok (.aload_n 0, 1) := by decide +kernel
theorem dX4_pushPair_1 : decode cX4_pushPair 1 = .ok (.iload_n 1, 1) := by decide +kernel
theorem dX4_pushPair_2 : decode cX4_pushPair 2 = .ok (.bipush 6, 2) := by decide +kernel
theorem dX4_pushPair_4 : decode cX4_pushPair 4 = .ok (.if_icmp .ne 24, 3) := by decide +kernel
theorem dX4_pushPair_7 : decode cX4_pushPair 7 = .ok (.aload_n 0, 1) := by decide +kernel
theorem dX4_pushPair_8 : decode cX4_pushPair 8 = .ok (.getfield 27, 3) := by decide +kernel
theorem dX4_pushPair_11 : decode cX4_pushPair 11 = .ok (.bipush 7, 2) := by decide +kernel
theorem dX4_pushPair_13 : decode cX4_pushPair 13 = .ok (.iaload, 1) := by decide +kernel
theorem dX4_pushPair_14 : decode cX4_pushPair 14 = .ok (.bipush 8, 2) := by decide +kernel
theorem dX4_pushPair_16 : decode cX4_pushPair 16 = .ok (.ishl, 1) := by decide +kernel
theorem dX4_pushPair_17 : decode cX4_pushPair 17 = .ok (.aload_n 0, 1) := by decide +kernel
theorem dX4_pushPair_18 : decode cX4_pushPair 18 = .ok (.getfield 12, 3) := by decide +kernel
theorem dX4_pushPair_21 : decode cX4_pushPair 21 = .ok (.invokevirtual 47, 3) := by decide +kernel
theorem dX4_pushPair_24 : decode cX4_pushPair 24 = .ok (.ior, 1) := by decide +kernel
theorem dX4_pushPair_25 : decode cX4_pushPair 25 = .ok (.goto 10, 3) := by decide +kernel
theorem dX4_pushPair_28 : decode cX4_pushPair 28 = .ok (.aload_n 0, 1) := by decide +kernel
theorem dX4_pushPair_29 : decode cX4_pushPair 29 = .ok (.iload_n 1, 1) := by decide +kernel
theorem dX4_pushPair_30 : decode cX4_pushPair 30 = .ok (.iconst 1, 1) := by decide +kernel
theorem dX4_pushPair_31 : decode cX4_pushPair 31 = .ok (.ishr, 1) := by decide +kernel
theorem dX4_pushPair_32 : decode cX4_pushPair 32 = .ok (.invokevirtual 139, 3) := by decide +kernel
theorem dX4_pushPair_35 : decode cX4_pushPair 35 = .ok (.invokevirtual 88, 3) := by decide +kernel
theorem dX4_pushPair_38 : decode cX4_pushPair 38 = .ok (.bipush 11, 2) := by decide +kernel
theorem dX4_pushPair_40 : decode cX4_pushPair 40 = .ok (.ireturn, 1) := by decide +kernel
set_option maxRecDepth 20000 in
theorem ggX4_portOrExchange_X4_nextByte : GoodIn wsX4_portOrExchange wsX4_nextByte := goodIn_r _ [8, 9, 10, 11, 12, 13, 14, 15, 16, 17, 110, 111, 112, 113, 114, 115, 116, 117, 118, 119, 120, 121, 122, 123] (by decide +kernel) (by decide +kernel)
set_option maxRecDepth 20000 in
theorem gX4_portOrExchange_X4_nextByte : GoodIn wsX4_portOrExchange (wsV RX4 91 RX4 yX4_nextByte wsX4_nextByte) := goodIn_app (goodIn_of _ (by decide +kernel)) ggX4_portOrExchange_X4_nextByte
set_option maxRecDepth 20000 in
theorem ggX4_portOrExchange_X4_sendToPort : GoodIn wsX4_portOrExchange wsX4_sendToPort := goodIn_r _ [21, 22, 23, 24, 25, 26, 27, 28, 29, 30, 31, 32, 33, 34, 35, 36, 37, 38, 39, 40, 41, 42, 43, 44, 45, 46, 47, 48, 49, 50, 51, 52, 53, 54, 55, 56, 57, 58, 59, 60, 61, 62, 63, 64, 65, 110, 111, 112, 113, 114, 115, 116, 117, 118, 119, 120, 121, 122, 124, 125, 126, 127, 128, 129, 130, 131, 132, 133, 134, 135, 136, 137, 138, 139] (by decide +kernel) (by decide +kernel)
set_option maxRecDepth 20000 in
theorem gX4_portOrExchange_X4_sendToPort : GoodIn wsX4_portOrExchange (wsV RX4 189 RX4 yX4_sendToPort wsX4_sendToPort) := goodIn_app (goodIn_of _ (by decide +kernel)) ggX4_portOrExchange_X4_sendToPort
set_option maxRecDepth 20000 in
theorem ggX4_portOrExchange_X4_takeFromPort : GoodIn wsX4_portOrExchange wsX4_takeFromPort := goodIn_r _ [69, 22, 23, 70, 71, 72, 27, 73, 74, 75, 76, 77, 78, 79, 80, 81, 82, 83, 34, 84, 56, 110, 111, 112, 113, 114, 115, 116, 117, 118, 119, 120, 121, 122, 124, 125, 126, 127, 128, 129, 130, 131, 132, 133, 134, 135, 136, 137, 138, 139] (by decide +kernel) (by decide +kernel)
set_option maxRecDepth 20000 in
theorem gX4_portOrExchange_X4_takeFromPort : GoodIn wsX4_portOrExchange (wsV RX4 192 RX4 yX4_takeFromPort wsX4_takeFromPort) := goodIn_app (goodIn_of _ (by decide +kernel)) ggX4_portOrExchange_X4_takeFromPort
set_option maxRecDepth 20000 in
theorem ggX4_portOrExchange_X4_swapWithStack : GoodIn wsX4_portOrExchange wsX4_swapWithStack := goodIn_r _ [88, 9, 89, 90, 91, 92, 15, 93, 17, 94, 95, 96, 7, 97, 1, 98, 99, 100, 101, 102, 103, 104, 105, 11, 110, 111, 112, 113, 114, 115, 116, 117, 118, 119, 120, 121, 122, 123] (by decide +kernel) (by decide +kernel)
set_option maxRecDepth 20000 in
theorem gX4_portOrExchange_X4_swapWithStack : GoodIn wsX4_portOrExchange (wsV RX4 195 RX4 yX4_swapWithStack wsX4_swapWithStack) := goodIn_app (goodIn_of _ (by decide +kernel)) ggX4_portOrExchange_X4_swapWithStack
set_option maxRecDepth 20000 in
theorem ggX4_portOrExchange_X4_swapPairs : GoodIn wsX4_portOrExchange wsX4_swapPairs := goodIn_r _ [109, 94, 95, 96, 7, 97, 89, 1, 102, 103, 104, 105, 11, 110, 111, 112, 113, 114, 115, 116, 117, 118, 119, 120, 121, 122] (by decide +kernel) (by decide +kernel)
set_option maxRecDepth 20000 in
theorem gX4_portOrExchange_X4_swapPairs : GoodIn wsX4_portOrExchange (wsV RX4 198 RX4 yX4_swapPairs wsX4_swapPairs) := goodIn_app (goodIn_of _ (by decide +kernel)) ggX4_portOrExchange_X4_swapPairs
theorem dX4_portOrExchange_0 : decode cX4_portOrExchange 0 = .ok (.iload_n 1, 1) := by decide +kernel
theorem dX4_portOrExchange_1 : decode cX4_portOrExchange 1 = .ok (.tableswitch 88 2 6 #[35, 53, 71, 76, 81], 35) := by decide +kernel
theorem dX4_portOrExchange_36 : decode cX4_portOrExchange 36 = .ok (.aload_n 0, 1) := by decide +kernel
theorem dX4_portOrExchange_37 : decode cX4_portOrExchange 37 = .ok (.aload_n 0, 1) := by decide +kernel
theorem dX4_portOrExchange_38 : decode cX4_portOrExchange 38 = .ok (.invokevirtual 91, 3) := by decide +kernel
theorem dX4_portOrExchange_41 : decode cX4_portOrExchange 41 = .ok (.aload_n 0, 1) := by decide +kernel
theorem dX4_portOrExchange_42 : decode cX4_portOrExchange 42 = .ok (.getfield 27, 3) := by decide +kernel
theorem dX4_portOrExchange_45 : decode cX4_portOrExchange 45 = .ok (.bipush 7, 2) := by decide +kernel
theorem dX4_portOrExchange_47 : decode cX4_portOrExchange 47 = .ok (.iaload, 1) := by decide +kernel
theorem dX4_portOrExchange_48 : decode cX4_portOrExchange 48 = .ok (.invokevirtual 189, 3) := by decide +kernel
theorem dX4_portOrExchange_51 : decode cX4_portOrExchange 51 = .ok (.bipush 10, 2) := by decide +kernel
theorem dX4_portOrExchange_53 : decode cX4_portOrExchange 53 = .ok (.ireturn, 1) := by decide +kernel
theorem dX4_portOrExchange_54 : decode cX4_portOrExchange 54 = .ok (.aload_n 0, 1) := by decide +kernel
theorem dX4_portOrExchange_55 : decode cX4_portOrExchange 55 = .ok (.getfield 27, 3) := by decide +kernel
theorem dX4_portOrExchange_58 : decode cX4_portOrExchange 58 = .ok (.bipush 7, 2) := by decide +kernel
theorem dX4_portOrExchange_60 : decode cX4_portOrExchange 60 = .ok (.aload_n 0, 1) := by decide +kernel
theorem dX4_portOrExchange_61 : decode cX4_portOrExchange 61 = .ok (.aload_n 0, 1) := by decide +kernel
theorem dX4_portOrExchange_62 : decode cX4_portOrExchange 62 = .ok (.invokevirtual 91, 3) := by decide +kernel
theorem dX4_portOrExchange_65 : decode cX4_portOrExchange 65 = .ok (.invokevirtual 192, 3) := by decide +kernel
theorem dX4_portOrExchange_68 : decode cX4_portOrExchange 68 = .ok (.iastore, 1) := by decide +kernel
theorem dX4_portOrExchange_69 : decode cX4_portOrExchange 69 = .ok (.bipush 10, 2) := by decide +kernel
theorem dX4_portOrExchange_71 : decode cX4_portOrExchange 71 = .ok (.ireturn, 1) := by decide +kernel
theorem dX4_portOrExchange_72 : decode cX4_portOrExchange 72 = .ok (.aload_n 0, 1) := by decide +kernel
theorem dX4_portOrExchange_73 : decode cX4_portOrExchange 73 = .ok (.invokevirtual 195, 3) := by decide +kernel
theorem dX4_portOrExchange_76 : decode cX4_portOrExchange 76 = .ok (.ireturn, 1) := by decide +kernel
theorem dX4_portOrExchange_77 : decode cX4_portOrExchange 77 = .ok (.aload_n 0, 1) := by decide +kernel
theorem dX4_portOrExchange_78 : decode cX4_portOrExchange 78 = .ok (.invokevirtual 198, 3) := by decide +kernel
theorem dX4_portOrExchange_81 : decode cX4_portOrExchange 81 = .ok (.ireturn, 1) := by decide +kernel
theorem dX4_portOrExchange_82 : decode cX4_portOrExchange 82 = .ok (.aload_n 0, 1) := by decide +kernel
theorem dX4_portOrExchange_83 : decode cX4_portOrExchange 83 = .ok (.iconst 0, 1) := by decide +kernel
theorem dX4_portOrExchange_84 : decode cX4_portOrExchange 84 = .ok (.putfield 66, 3) := by decide +kernel
theorem dX4_portOrExchange_87 : decode cX4_portOrExchange 87 = .ok (.iconst 4, 1) := by decide +kernel
theorem dX4_portOrExchange_88 : decode cX4_portOrExchange 88 = .ok (.ireturn, 1) := by decide +kernel
theorem dX4_portOrExchange_89 : decode cX4_portOrExchange 89 = .ok (.aload_n 0, 1) := by decide +kernel
theorem dX4_portOrExchange_90 : decode cX4_portOrExchange 90 = .ok (.iconst 1, 1) := by decide +kernel
theorem dX4_portOrExchange_91 : decode cX4_portOrExchange 91 = .ok (.putfield 66, 3) := by decide +kernel
theorem dX4_portOrExchange_94 : decode cX4_portOrExchange 94 = .ok (.aload_n 0, 1) := by decide +kernel
theorem dX4_portOrExchange_95 : decode cX4_portOrExchange 95 = .ok (.iconst 1, 1) := by decide +kernel
theorem dX4_portOrExchange_96 : decode cX4_portOrExchange 96 = .ok (.putfield 73, 3) := by decide +kernel
theorem dX4_portOrExchange_99 : decode cX4_portOrExchange 99 = .ok (.iconst 4, 1) := by decide +kernel
theorem dX4_portOrExchange_100 : decode cX4_portOrExchange 100 = .ok (.ireturn, 1) := by decide +kernel
set_option maxRecDepth 20000 in
theorem ggX4_swapWithStack_X5_wordAt : GoodIn wsX4_swapWithStack wsX5_wordAt := goodIn_r _ [7, 8, 37] (by decide +kernel) (by decide +kernel)
set_option maxRecDepth 20000 in
theorem gX4_swapWithStack_X5_wordAt : GoodIn wsX4_swapWithStack (wsV RX4 157 RX5 yX5_wordAt wsX5_wordAt) := goodIn_app (goodIn_of _ (by decide +kernel)) ggX4_swapWithStack_X5_wordAt
set_option maxRecDepth 20000 in
theorem ggX4_swapWithStack_X4_pair : GoodIn wsX4_swapWithStack wsX4_pair := goodIn_r _ [13, 2, 14, 24, 25, 26, 27, 28, 29, 30, 31, 32, 33, 34, 35, 36] (by decide +kernel) (by decide +kernel)
set_option maxRecDepth 20000 in
theorem gX4_swapWithStack_X4_pair : GoodIn wsX4_swapWithStack (wsV RX4 139 RX4 yX4_pair wsX4_pair) := goodIn_app (goodIn_of _ (by decide +kernel)) ggX4_swapWithStack_X4_pair
set_option maxRecDepth 20000 in
theorem ggX4_swapWithStack_X5_setWord : GoodIn wsX4_swapWithStack wsX5_setWord := goodIn_r _ [18, 8, 37] (by decide +kernel) (by decide +kernel)
set_option maxRecDepth 20000 in
theorem gX4_swapWithStack_X5_setWord : GoodIn wsX4_swapWithStack (wsV RX4 154 RX5 yX5_setWord wsX5_setWord) := goodIn_app (goodIn_of _ (by decide +kernel)) ggX4_swapWithStack_X5_setWord
set_option maxRecDepth 20000 in
theorem ggX4_swapWithStack_X4_setPair : GoodIn wsX4_swapWithStack wsX4_setPair := goodIn_r _ [22, 23, 2, 14, 24, 25, 26, 27, 28, 29, 30, 31, 32, 33, 34, 35, 36] (by decide +kernel) (by decide +kernel)
set_option maxRecDepth 20000 in
theorem gX4_swapWithStack_X4_setPair : GoodIn wsX4_swapWithStack (wsV RX4 136 RX4 yX4_setPair wsX4_setPair) := goodIn_app (goodIn_of _ (by decide +kernel)) ggX4_swapWithStack_X4_setPair
theorem dX4_swapWithStack_0 : decode cX4_swapWithStack 0 = .ok (.aload_n 0, 1) := by decide +kernel
theorem dX4_swapWithStack_1 : decode cX4_swapWithStack 1 = .ok (.getfield 35, 3) := by decide +kernel
theorem dX4_swapWithStack_4 : decode cX4_swapWithStack 4 = .ok (.aload_n 0, 1) := by decide +kernel
theorem dX4_swapWithStack_5 : decode cX4_swapWithStack 5 = .ok (.getfield 54, 3) := by decide +kernel
theorem dX4_swapWithStack_8 : decode cX4_swapWithStack 8 = .ok (.invokevirtual 157, 3) := by decide +kernel
theorem dX4_swapWithStack_11 : decode cX4_swapWithStack 11 = .ok (.istore_n 1, 1) := by decide +kernel
theorem dX4_swapWithStack_12 : decode cX4_swapWithStack 12 = .ok (.aload_n 0, 1) := by decide +kernel
theorem dX4_swapWithStack_13 : decode cX4_swapWithStack 13 = .ok (.getfield 35, 3) := by decide +kernel
theorem dX4_swapWithStack_16 : decode cX4_swapWithStack 16 = .ok (.aload_n 0, 1) := by decide +kernel
theorem dX4_swapWithStack_17 : decode cX4_swapWithStack 17 = .ok (.getfield 54, 3) := by decide +kernel
theorem dX4_swapWithStack_20 : decode cX4_swapWithStack 20 = .ok (.aload_n 0, 1) := by decide +kernel
theorem dX4_swapWithStack_21 : decode cX4_swapWithStack 21 = .ok (.iconst 2, 1) := by decide +kernel
theorem dX4_swapWithStack_22 : decode cX4_swapWithStack 22 = .ok (.invokevirtual 139, 3) := by decide +kernel
theorem dX4_swapWithStack_25 : decode cX4_swapWithStack 25 = .ok (.invokevirtual 154, 3) := by decide +kernel
theorem dX4_swapWithStack_28 : decode cX4_swapWithStack 28 = .ok (.aload_n 0, 1) := by decide +kernel
theorem dX4_swapWithStack_29 : decode cX4_swapWithStack 29 = .ok (.iconst 2, 1) := by decide +kernel
theorem dX4_swapWithStack_30 : decode cX4_swapWithStack 30 = .ok (.iload_n 1, 1) := by decide +kernel
theorem dX4_swapWithStack_31 : decode cX4_swapWithStack 31 = .ok (.invokevirtual 136, 3) := by decide +kernel
theorem dX4_swapWithStack_34 : decode cX4_swapWithStack 34 = .ok (.bipush 18, 2) := by decide +kernel
theorem dX4_swapWithStack_36 : decode cX4_swapWithStack 36 = .ok (.ireturn, 1) := by decide +kernel
set_option maxRecDepth 20000 in
theorem ggX4_swapPairs_X4_pair : GoodIn wsX4_swapPairs wsX4_pair := goodIn_r _ [5, 6, 7, 13, 14, 15, 16, 17, 18, 19, 20, 21, 22, 23, 24, 25] (by decide +kernel) (by decide +kernel)
set_option maxRecDepth 20000 in
theorem gX4_swapPairs_X4_pair : GoodIn wsX4_swapPairs (wsV RX4 139 RX4 yX4_pair wsX4_pair) := goodIn_app (goodIn_of _ (by decide +kernel)) ggX4_swapPairs_X4_pair
set_option maxRecDepth 20000 in
theorem ggX4_swapPairs_X4_setPair : GoodIn wsX4_swapPairs wsX4_setPair := goodIn_r _ [11, 12, 6, 7, 13, 14, 15, 16, 17, 18, 19, 20, 21, 22, 23, 24, 25] (by decide +kernel) (by decide +kernel)
set_option maxRecDepth 20000 in
theorem gX4_swapPairs_X4_setPair : GoodIn wsX4_swapPairs (wsV RX4 136 RX4 yX4_setPair wsX4_setPair) := goodIn_app (goodIn_of _ (by decide +kernel)) ggX4_swapPairs_X4_setPair
theorem dX4_swapPairs_0 : decode cX4_swapPairs 0 = .ok (.aload_n 0, 1) := by decide +kernel
theorem dX4_swapPairs_1 : decode cX4_swapPairs 1 = .ok (.iconst 1, 1) := by decide +kernel
theorem dX4_swapPairs_2 : decode cX4_swapPairs 2 = .ok (.invokevirtual 139, 3) := by decide +kernel
theorem dX4_swapPairs_5 : decode cX4_swapPairs 5 = .ok (.istore_n 1, 1) := by decide +kernel
theorem dX4_swapPairs_6 : decode cX4_swapPairs 6 = .ok (.aload_n 0, 1) := by decide +kernel
theorem dX4_swapPairs_7 : decode cX4_swapPairs 7 = .ok (.iconst 1, 1) := by decide +kernel
theorem dX4_swapPairs_8 : decode cX4_swapPairs 8 = .ok (.aload_n 0, 1) := by decide +kernel
theorem dX4_swapPairs_9 : decode cX4_swapPairs 9 = .ok (.iconst 2, 1) := by decide +kernel
theorem dX4_swapPairs_10 : decode cX4_swapPairs 10 = .ok (.invokevirtual 139, 3) := by decide +kernel
theorem dX4_swapPairs_13 : decode cX4_swapPairs 13 = .ok (.invokevirtual 136, 3) := by decide +kernel
theorem dX4_swapPairs_16 : decode cX4_swapPairs 16 = .ok (.aload_n 0, 1) := by decide +kernel
theorem dX4_swapPairs_17 : decode cX4_swapPairs 17 = .ok (.iconst 2, 1) := by decide +kernel
theorem dX4_swapPairs_18 : decode cX4_swapPairs 18 = .ok (.iload_n 1, 1) := by decide +kernel
theorem dX4_swapPairs_19 : decode cX4_swapPairs 19 = .ok (.invokevirtual 136, 3) := by decide +kernel
theorem dX4_swapPairs_22 : decode cX4_swapPairs 22 = .ok (.iconst 4, 1) := by decide +kernel
theorem dX4_swapPairs_23 : decode cX4_swapPairs 23 = .ok (.ireturn, 1) := by decide +kernel
set_option maxRecDepth 20000 in
theorem ggX4_sendToPort_X1_append : GoodIn wsX4_sendToPort wsX1_append := goodIn_r _ [7, 8, 9, 58, 59, 60, 61, 62] (by decide +kernel) (by decide +kernel)
set_option maxRecDepth 20000 in
theorem gX4_sendToPort_X1_append : GoodIn wsX4_sendToPort (wsV RX4 201 RX1 yX1_append wsX1_append) := goodIn_app (goodIn_of _ (by decide +kernel)) ggX4_sendToPort_X1_append
set_option maxRecDepth 20000 in
theorem ggX4_sendToPort_X2_setSector : GoodIn wsX4_sendToPort wsX2_setSector := goodIn_r _ [14, 15, 63, 64, 65, 66, 67, 68, 69, 70, 71, 72, 73] (by decide +kernel) (by decide +kernel)
set_option maxRecDepth 20000 in
theorem gX4_sendToPort_X2_setSector : GoodIn wsX4_sendToPort (wsV RX4 206 RX2 yX2_setSector wsX2_setSector) := goodIn_app (goodIn_of _ (by decide +kernel)) ggX4_sendToPort_X2_setSector
set_option maxRecDepth 20000 in
theorem ggX4_sendToPort_X2_setLowAddress : GoodIn wsX4_sendToPort wsX2_setLowAddress := goodIn_r _ [19, 20, 21, 63, 64, 65, 66, 67, 68, 69, 70, 71, 72, 73] (by decide +kernel) (by decide +kernel)
set_option maxRecDepth 20000 in
theorem gX4_sendToPort_X2_setLowAddress : GoodIn wsX4_sendToPort (wsV RX4 209 RX2 yX2_setLowAddress wsX2_setLowAddress) := goodIn_app (goodIn_of _ (by decide +kernel)) ggX4_sendToPort_X2_setLowAddress
set_option maxRecDepth 20000 in
theorem ggX4_sendToPort_X2_setHighAddress : GoodIn wsX4_sendToPort wsX2_setHighAddress := goodIn_r _ [25, 20, 63, 64, 65, 66, 67, 68, 69, 70, 71, 72, 73] (by decide +kernel) (by decide +kernel)
set_option maxRecDepth 20000 in
theorem gX4_sendToPort_X2_setHighAddress : GoodIn wsX4_sendToPort (wsV RX4 212 RX2 yX2_setHighAddress wsX2_setHighAddress) := goodIn_app (goodIn_of _ (by decide +kernel)) ggX4_sendToPort_X2_setHighAddress
set_option maxRecDepth 20000 in
theorem ggX4_sendToPort_X2_setCall : GoodIn wsX4_sendToPort wsX2_setCall := goodIn_r _ [29, 30, 63, 64, 65, 66, 67, 68, 69, 70, 71, 72, 73] (by decide +kernel) (by decide +kernel)
set_option maxRecDepth 20000 in
theorem gX4_sendToPort_X2_setCall : GoodIn wsX4_sendToPort (wsV RX4 215 RX2 yX2_setCall wsX2_setCall) := goodIn_app (goodIn_of _ (by decide +kernel)) ggX4_sendToPort_X2_setCall
set_option maxRecDepth 20000 in
theorem ggX4_sendToPort_X2_command : GoodIn wsX4_sendToPort wsX2_command := goodIn_r _ [34, 15, 35, 36, 37, 38, 39, 40, 41, 42, 43, 13, 44, 63, 64, 65, 66, 67, 68, 69, 70, 71, 72, 73] (by decide +kernel) (by decide +kernel)
set_option maxRecDepth 20000 in
theorem gX4_sendToPort_X2_command : GoodIn wsX4_sendToPort (wsV RX4 218 RX2 yX2_command wsX2_command) := goodIn_app (goodIn_of _ (by decide +kernel)) ggX4_sendToPort_X2_command
theorem dX4_sendToPort_0 : decode cX4_sendToPort 0 = .ok (.iload_n 1, 1) := by decide +kernel
theorem dX4_sendToPort_1 : decode cX4_sendToPort 1 = .ok (.tableswitch 105 1 6 #[39, 50, 61, 72, 83, 94], 39) := by decide +kernel
theorem dX4_sendToPort_40 : decode cX4_sendToPort 40 = .ok (.aload_n 0, 1) := by decide +kernel
theorem dX4_sendToPort_41 : decode cX4_sendToPort 41 = .ok (.getfield 39, 3) := by decide +kernel
theorem dX4_sendToPort_44 : decode cX4_sendToPort 44 = .ok (.iload_n 2, 1) := by decide +kernel
theorem dX4_sendToPort_45 : decode cX4_sendToPort 45 = .ok (.invokevirtual 201, 3) := by decide +kernel
theorem dX4_sendToPort_48 : decode cX4_sendToPort 48 = .ok (.goto 58, 3) := by decide +kernel
theorem dX4_sendToPort_51 : decode cX4_sendToPort 51 = .ok (.aload_n 0, 1) := by decide +kernel
theorem dX4_sendToPort_52 : decode cX4_sendToPort 52 = .ok (.getfield 43, 3) := by decide +kernel
theorem dX4_sendToPort_55 : decode cX4_sendToPort 55 = .ok (.iload_n 2, 1) := by decide +kernel
theorem dX4_sendToPort_56 : decode cX4_sendToPort 56 = .ok (.invokevirtual 206, 3) := by decide +kernel
theorem dX4_sendToPort_59 : decode cX4_sendToPort 59 = .ok (.goto 47, 3) := by decide +kernel
theorem dX4_sendToPort_62 : decode cX4_sendToPort 62 = .ok (.aload_n 0, 1) := by decide +kernel
theorem dX4_sendToPort_63 : decode cX4_sendToPort 63 = .ok (.getfield 43, 3) := by decide +kernel
theorem dX4_sendToPort_66 : decode cX4_sendToPort 66 = .ok (.iload_n 2, 1) := by decide +kernel
theorem dX4_sendToPort_67 : decode cX4_sendToPort 67 = .ok (.invokevirtual 209, 3) := by decide +kernel
theorem dX4_sendToPort_70 : decode cX4_sendToPort 70 = .ok (.goto 36, 3) := by decide +kernel
theorem dX4_sendToPort_73 : decode cX4_sendToPort 73 = .ok (.aload_n 0, 1) := by decide +kernel
theorem dX4_sendToPort_74 : decode cX4_sendToPort 74 = .ok (.getfield 43, 3) := by decide +kernel
theorem dX4_sendToPort_77 : decode cX4_sendToPort 77 = .ok (.iload_n 2, 1) := by decide +kernel
theorem dX4_sendToPort_78 : decode cX4_sendToPort 78 = .ok (.invokevirtual 212, 3) := by decide +kernel
theorem dX4_sendToPort_81 : decode cX4_sendToPort 81 = .ok (.goto 25, 3) := by decide +kernel
theorem dX4_sendToPort_84 : decode cX4_sendToPort 84 = .ok (.aload_n 0, 1) := by decide +kernel
theorem dX4_sendToPort_85 : decode cX4_sendToPort 85 = .ok (.getfield 43, 3) := by decide +kernel
theorem dX4_sendToPort_88 : decode cX4_sendToPort 88 = .ok (.iload_n 2, 1) := by decide +kernel
theorem dX4_sendToPort_89 : decode cX4_sendToPort 89 = .ok (.invokevirtual 215, 3) := by decide +kernel
theorem dX4_sendToPort_92 : decode cX4_sendToPort 92 = .ok (.goto 14, 3) := by decide +kernel
theorem dX4_sendToPort_95 : decode cX4_sendToPort 95 = .ok (.aload_n 0, 1) := by decide +kernel
theorem dX4_sendToPort_96 : decode cX4_sendToPort 96 = .ok (.getfield 43, 3) := by decide +kernel
theorem dX4_sendToPort_99 : decode cX4_sendToPort 99 = .ok (.iload_n 2, 1) := by decide +kernel
theorem dX4_sendToPort_100 : decode cX4_sendToPort 100 = .ok (.invokevirtual 218, 3) := by decide +kernel
theorem dX4_sendToPort_103 : decode cX4_sendToPort 103 = .ok (.goto 3, 3) := by decide +kernel
theorem dX4_sendToPort_106 : decode cX4_sendToPort 106 = .ok (.return_, 1) := by decide +kernel
set_option maxRecDepth 20000 in
theorem ggX4_takeFromPort_X1_hasInput : GoodIn wsX4_takeFromPort wsX1_hasInput := goodIn_r _ [7, 8, 34, 35, 36, 37, 38] (by decide +kernel) (by decide +kernel)
set_option maxRecDepth 20000 in
theorem gX4_takeFromPort_X1_hasInput : GoodIn wsX4_takeFromPort (wsV RX4 221 RX1 yX1_hasInput wsX1_hasInput) := goodIn_app (goodIn_of _ (by decide +kernel)) ggX4_takeFromPort_X1_hasInput
set_option maxRecDepth 20000 in
theorem ggX4_takeFromPort_X1_nextInput : GoodIn wsX4_takeFromPort wsX1_nextInput := goodIn_r _ [12, 8, 13, 14, 34, 35, 36, 37, 38] (by decide +kernel) (by decide +kernel)
set_option maxRecDepth 20000 in
theorem gX4_takeFromPort_X1_nextInput : GoodIn wsX4_takeFromPort (wsV RX4 225 RX1 yX1_nextInput wsX1_nextInput) := goodIn_app (goodIn_of _ (by decide +kernel)) ggX4_takeFromPort_X1_nextInput
set_option maxRecDepth 20000 in
theorem ggX4_takeFromPort_X2_takeState : GoodIn wsX4_takeFromPort wsX2_takeState := goodIn_r _ [19, 20, 39, 40, 41, 42, 43, 44, 45, 46, 47, 48, 49] (by decide +kernel) (by decide +kernel)
set_option maxRecDepth 20000 in
theorem gX4_takeFromPort_X2_takeState : GoodIn wsX4_takeFromPort (wsV RX4 228 RX2 yX2_takeState wsX2_takeState) := goodIn_app (goodIn_of _ (by decide +kernel)) ggX4_takeFromPort_X2_takeState
theorem dX4_takeFromPort_0 : decode cX4_takeFromPort 0 = .ok (.iload_n 1, 1) := by decide +kernel
theorem dX4_takeFromPort_1 : decode cX4_takeFromPort 1 = .ok (.lookupswitch 67 #[(0, 35), (1, 51), (6, 59)], 35) := by decide +kernel
theorem dX4_takeFromPort_36 : decode cX4_takeFromPort 36 = .ok (.aload_n 0, 1) := by decide +kernel
theorem dX4_takeFromPort_37 : decode cX4_takeFromPort 37 = .ok (.getfield 39, 3) := by decide +kernel
theorem dX4_takeFromPort_40 : decode cX4_takeFromPort 40 = .ok (.invokevirtual 221, 3) := by decide +kernel
theorem dX4_takeFromPort_43 : decode cX4_takeFromPort 43 = .ok (.ifCond .eq 7, 3) := by decide +kernel
theorem dX4_takeFromPort_46 : decode cX4_takeFromPort 46 = .ok (.iconst 1, 1) := by decide +kernel
theorem dX4_takeFromPort_47 : decode cX4_takeFromPort 47 = .ok (.goto 4, 3) := by decide +kernel
theorem dX4_takeFromPort_50 : decode cX4_takeFromPort 50 = .ok (.iconst 0, 1) := by decide +kernel
theorem dX4_takeFromPort_51 : decode cX4_takeFromPort 51 = .ok (.ireturn, 1) := by decide +kernel
theorem dX4_takeFromPort_52 : decode cX4_takeFromPort 52 = .ok (.aload_n 0, 1) := by decide +kernel
theorem dX4_takeFromPort_53 : decode cX4_takeFromPort 53 = .ok (.getfield 39, 3) := by decide +kernel
theorem dX4_takeFromPort_56 : decode cX4_takeFromPort 56 = .ok (.invokevirtual 225, 3) := by decide +kernel
theorem dX4_takeFromPort_59 : decode cX4_takeFromPort 59 = .ok (.ireturn, 1) := by decide +kernel
theorem dX4_takeFromPort_60 : decode cX4_takeFromPort 60 = .ok (.aload_n 0, 1) := by decide +kernel
theorem dX4_takeFromPort_61 : decode cX4_takeFromPort 61 = .ok (.getfield 43, 3) := by decide +kernel
theorem dX4_takeFromPort_64 : decode cX4_takeFromPort 64 = .ok (.invokevirtual 228, 3) := by decide +kernel
theorem dX4_takeFromPort_67 : decode cX4_takeFromPort 67 = .ok (.ireturn, 1) := by decide +kernel
theorem dX4_takeFromPort_68 : decode cX4_takeFromPort 68 = .ok (.sipush 255, 3) := by decide +kernel
theorem dX4_takeFromPort_71 : decode cX4_takeFromPort 71 = .ok (.ireturn, 1) := by decide +kernel
set_option maxRecDepth 20000 in
theorem ggX4_value_X4_pair : GoodIn wsX4_value wsX4_pair := goodIn_r _ [7, 8, 2, 15, 16, 17, 18, 19, 20, 21, 22, 23, 24, 25, 26, 27] (by decide +kernel) (by decide +kernel)
set_option maxRecDepth 20000 in
theorem gX4_value_X4_pair : GoodIn wsX4_value (wsV RX4 139 RX4 yX4_pair wsX4_pair) := goodIn_app (goodIn_of _ (by decide +kernel)) ggX4_value_X4_pair
set_option maxRecDepth 20000 in
theorem ggX4_value_X5_byteAt : GoodIn wsX4_value wsX5_byteAt := goodIn_r _ [13, 14, 28] (by decide +kernel) (by decide +kernel)
set_option maxRecDepth 20000 in
theorem gX4_value_X5_byteAt : GoodIn wsX4_value (wsV RX4 151 RX5 yX5_byteAt wsX5_byteAt) := goodIn_app (goodIn_of _ (by decide +kernel)) ggX4_value_X5_byteAt
theorem dX4_value_0 : decode cX4_value 0 = .ok (.iload_n 1, 1) := by decide +kernel
theorem dX4_value_1 : decode cX4_value 1 = .ok (.bipush 6, 2) := by decide +kernel
theorem dX4_value_3 : decode cX4_value 3 = .ok (.if_icmp .ne 18, 3) := by decide +kernel
theorem dX4_value_6 : decode cX4_value 6 = .ok (.aload_n 0, 1) := by decide +kernel
theorem dX4_value_7 : decode cX4_value 7 = .ok (.getfield 35, 3) := by decide +kernel
theorem dX4_value_10 : decode cX4_value 10 = .ok (.aload_n 0, 1) := by decide +kernel
theorem dX4_value_11 : decode cX4_value 11 = .ok (.iconst 2, 1) := by decide +kernel
theorem dX4_value_12 : decode cX4_value 12 = .ok (.invokevirtual 139, 3) := by decide +kernel
theorem dX4_value_15 : decode cX4_value 15 = .ok (.invokevirtual 151, 3) := by decide +kernel
theorem dX4_value_18 : decode cX4_value 18 = .ok (.goto 9, 3) := by decide +kernel
theorem dX4_value_21 : decode cX4_value 21 = .ok (.aload_n 0, 1) := by decide +kernel
theorem dX4_value_22 : decode cX4_value 22 = .ok (.getfield 27, 3) := by decide +kernel
theorem dX4_value_25 : decode cX4_value 25 = .ok (.iload_n 1, 1) := by decide +kernel
theorem dX4_value_26 : decode cX4_value 26 = .ok (.iaload, 1) := by decide +kernel
theorem dX4_value_27 : decode cX4_value 27 = .ok (.ireturn, 1) := by decide +kernel
set_option maxRecDepth 20000 in
theorem ggX4_setValue_X4_pair : GoodIn wsX4_setValue wsX4_pair := goodIn_r _ [7, 8, 2, 15, 16, 17, 18, 19, 20, 21, 22, 23, 24, 25, 26, 27] (by decide +kernel) (by decide +kernel)
set_option maxRecDepth 20000 in
theorem gX4_setValue_X4_pair : GoodIn wsX4_setValue (wsV RX4 139 RX4 yX4_pair wsX4_pair) := goodIn_app (goodIn_of _ (by decide +kernel)) ggX4_setValue_X4_pair
set_option maxRecDepth 20000 in
theorem ggX4_setValue_X5_setByte : GoodIn wsX4_setValue wsX5_setByte := goodIn_r _ [13, 14, 28] (by decide +kernel) (by decide +kernel)
set_option maxRecDepth 20000 in
theorem gX4_setValue_X5_setByte : GoodIn wsX4_setValue (wsV RX4 146 RX5 yX5_setByte wsX5_setByte) := goodIn_app (goodIn_of _ (by decide +kernel)) ggX4_setValue_X5_setByte
theorem dX4_setValue_0 : decode cX4_setValue 0 = .ok (.iload_n 1, 1) := by decide +kernel
theorem dX4_setValue_1 : decode cX4_setValue 1 = .ok (.bipush 6, 2) := by decide +kernel
theorem dX4_setValue_3 : decode cX4_setValue 3 = .ok (.if_icmp .ne 19, 3) := by decide +kernel
theorem dX4_setValue_6 : decode cX4_setValue 6 = .ok (.aload_n 0, 1) := by decide +kernel
theorem dX4_setValue_7 : decode cX4_setValue 7 = .ok (.getfield 35, 3) := by decide +kernel
theorem dX4_setValue_10 : decode cX4_setValue 10 = .ok (.aload_n 0, 1) := by decide +kernel
theorem dX4_setValue_11 : decode cX4_setValue 11 = .ok (.iconst 2, 1) := by decide +kernel
theorem dX4_setValue_12 : decode cX4_setValue 12 = .ok (.invokevirtual 139, 3) := by decide +kernel
theorem dX4_setValue_15 : decode cX4_setValue 15 = .ok (.iload_n 2, 1) := by decide +kernel
theorem dX4_setValue_16 : decode cX4_setValue 16 = .ok (.invokevirtual 146, 3) := by decide +kernel
theorem dX4_setValue_19 : decode cX4_setValue 19 = .ok (.goto 10, 3) := by decide +kernel
theorem dX4_setValue_22 : decode cX4_setValue 22 = .ok (.aload_n 0, 1) := by decide +kernel
theorem dX4_setValue_23 : decode cX4_setValue 23 = .ok (.getfield 27, 3) := by decide +kernel
theorem dX4_setValue_26 : decode cX4_setValue 26 = .ok (.iload_n 1, 1) := by decide +kernel
theorem dX4_setValue_27 : decode cX4_setValue 27 = .ok (.iload_n 2, 1) := by decide +kernel
theorem dX4_setValue_28 : decode cX4_setValue 28 = .ok (.iastore, 1) := by decide +kernel
theorem dX4_setValue_29 : decode cX4_setValue 29 = .ok (.return_, 1) := by decide +kernel
theorem dX4_pair_0 : decode cX4_pair 0 = .ok (.iload_n 1, 1) := by decide +kernel
theorem dX4_pair_1 : decode cX4_pair 1 = .ok (.iconst 3, 1) := by decide +kernel
theorem dX4_pair_2 : decode cX4_pair 2 = .ok (.if_icmp .ne 10, 3) := by decide +kernel
theorem dX4_pair_5 : decode cX4_pair 5 = .ok (.aload_n 0, 1) := by decide +kernel
theorem dX4_pair_6 : decode cX4_pair 6 = .ok (.getfield 54, 3) := by decide +kernel
theorem dX4_pair_9 : decode cX4_pair 9 = .ok (.goto 25, 3) := by decide +kernel
theorem dX4_pair_12 : decode cX4_pair 12 = .ok (.aload_n 0, 1) := by decide +kernel
theorem dX4_pair_13 : decode cX4_pair 13 = .ok (.getfield 27, 3) := by decide +kernel
theorem dX4_pair_16 : decode cX4_pair 16 = .ok (.iconst 2, 1) := by decide +kernel
theorem dX4_pair_17 : decode cX4_pair 17 = .ok (.iload_n 1, 1) := by decide +kernel
theorem dX4_pair_18 : decode cX4_pair 18 = .ok (.imul, 1) := by decide +kernel
theorem dX4_pair_19 : decode cX4_pair 19 = .ok (.iaload, 1) := by decide +kernel
theorem dX4_pair_20 : decode cX4_pair 20 = .ok (.bipush 8, 2) := by decide +kernel
theorem dX4_pair_22 : decode cX4_pair 22 = .ok (.ishl, 1) := by decide +kernel
theorem dX4_pair_23 : decode cX4_pair 23 = .ok (.aload_n 0, 1) := by decide +kernel
theorem dX4_pair_24 : decode cX4_pair 24 = .ok (.getfield 27, 3) := by decide +kernel
theorem dX4_pair_27 : decode cX4_pair 27 = .ok (.iconst 2, 1) := by decide +kernel
theorem dX4_pair_28 : decode cX4_pair 28 = .ok (.iload_n 1, 1) := by decide +kernel
theorem dX4_pair_29 : decode cX4_pair 29 = .ok (.imul, 1) := by decide +kernel
theorem dX4_pair_30 : decode cX4_pair 30 = .ok (.iconst 1, 1) := by decide +kernel
theorem dX4_pair_31 : decode cX4_pair 31 = .ok (.iadd, 1) := by decide +kernel
theorem dX4_pair_32 : decode cX4_pair 32 = .ok (.iaload, 1) := by decide +kernel
theorem dX4_pair_33 : decode cX4_pair 33 = .ok (.ior, 1) := by decide +kernel
theorem dX4_pair_34 : decode cX4_pair 34 = .ok (.ireturn, 1) := by decide +kernel
theorem dX4_setPair_0 : decode cX4_setPair 0 = .ok (.iload_n 1, 1) := by decide +kernel
theorem dX4_setPair_1 : decode cX4_setPair 1 = .ok (.iconst 3, 1) := by decide +kernel
theorem dX4_setPair_2 : decode cX4_setPair 2 = .ok (.if_icmp .ne 14, 3) := by decide +kernel
theorem dX4_setPair_5 : decode cX4_setPair 5 = .ok (.aload_n 0, 1) := by decide +kernel
theorem dX4_setPair_6 : decode cX4_setPair 6 = .ok (.iload_n 2, 1) := by decide +kernel
theorem dX4_setPair_7 : decode cX4_setPair 7 = .ok (.ldc 61, 2) := by decide +kernel
theorem dX4_setPair_9 : decode cX4_setPair 9 = .ok (.iand, 1) := by decide +kernel
theorem dX4_setPair_10 : decode cX4_setPair 10 = .ok (.putfield 54, 3) := by decide +kernel
theorem dX4_setPair_13 : decode cX4_setPair 13 = .ok (.goto 34, 3) := by decide +kernel
theorem dX4_setPair_16 : decode cX4_setPair 16 = .ok (.aload_n 0, 1) := by decide +kernel
theorem dX4_setPair_17 : decode cX4_setPair 17 = .ok (.getfield 27, 3) := by decide +kernel
theorem dX4_setPair_20 : decode cX4_setPair 20 = .ok (.iconst 2, 1) := by decide +kernel
theorem dX4_setPair_21 : decode cX4_setPair 21 = .ok (.iload_n 1, 1) := by decide +kernel
theorem dX4_setPair_22 : decode cX4_setPair 22 = .ok (.imul, 1) := by decide +kernel
theorem dX4_setPair_23 : decode cX4_setPair 23 = .ok (.iload_n 2, 1) := by decide +kernel
theorem dX4_setPair_24 : decode cX4_setPair 24 = .ok (.bipush 8, 2) := by decide +kernel
theorem dX4_setPair_26 : decode cX4_setPair 26 = .ok (.ishr, 1) := by decide +kernel
theorem dX4_setPair_27 : decode cX4_setPair 27 = .ok (.sipush 255, 3) := by decide +kernel
theorem dX4_setPair_30 : decode cX4_setPair 30 = .ok (.iand, 1) := by decide +kernel
