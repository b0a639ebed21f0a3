theorem dX7_zero_279 : decode cX7_zero 279 = .ok (.bipush 10, 2) := by decide +kernel
theorem dX7_zero_281 : decode cX7_zero 281 = .ok (.goto 5, 3) := by decide +kernel
theorem dX7_zero_284 : decode cX7_zero 284 = .ok (.bipush 7, 2) := by decide +kernel
theorem dX7_zero_286 : decode cX7_zero 286 = .ok (.putfield 141, 3) := by decide +kernel
theorem dX7_zero_289 : decode cX7_zero 289 = .ok (.aload_n 0, 1) := by decide +kernel
theorem dX7_zero_290 : decode cX7_zero 290 = .ok (.iload_n 1, 1) := by decide +kernel
theorem dX7_zero_291 : decode cX7_zero 291 = .ok (.aload_n 0, 1) := by decide +kernel
theorem dX7_zero_292 : decode cX7_zero 292 = .ok (.invokevirtual 51, 3) := by decide +kernel
theorem dX7_zero_295 : decode cX7_zero 295 = .ok (.invokevirtual 162, 3) := by decide +kernel
theorem dX7_zero_298 : decode cX7_zero 298 = .ok (.goto 13, 3) := by decide +kernel
theorem dX7_zero_301 : decode cX7_zero 301 = .ok (.aload_n 0, 1) := by decide +kernel
theorem dX7_zero_302 : decode cX7_zero 302 = .ok (.iconst 4, 1) := by decide +kernel
theorem dX7_zero_303 : decode cX7_zero 303 = .ok (.putfield 141, 3) := by decide +kernel
theorem dX7_zero_306 : decode cX7_zero 306 = .ok (.aload_n 0, 1) := by decide +kernel
theorem dX7_zero_307 : decode cX7_zero 307 = .ok (.iload_n 1, 1) := by decide +kernel
theorem dX7_zero_308 : decode cX7_zero 308 = .ok (.invokevirtual 165, 3) := by decide +kernel
theorem dX7_zero_311 : decode cX7_zero 311 = .ok (.return_, 1) := by decide +kernel
set_option maxRecDepth 20000 in
theorem ggX7_byAddress_X7_pair : GoodIn wsX7_byAddress wsX7_pair := goodIn_r _ [7, 8, 2, 44, 45, 46, 47, 48, 49, 50, 51, 52, 53, 54, 55, 56, 57, 58, 59, 60, 61, 62, 63, 64, 65, 66, 67, 68, 69, 70, 71, 72, 73] (by decide +kernel) (by decide +kernel)
set_option maxRecDepth 20000 in
theorem gX7_byAddress_X7_pair : GoodIn wsX7_byAddress (wsV RX7 147 RX7 yX7_pair wsX7_pair) := goodIn_app (goodIn_of _ (by decide +kernel)) ggX7_byAddress_X7_pair
set_option maxRecDepth 20000 in
theorem ggX7_byAddress_X7_nextWord : GoodIn wsX7_byAddress wsX7_nextWord := goodIn_r _ [12, 13, 14, 15, 6, 16, 17, 18, 19, 20, 21, 22, 23, 44, 45, 46, 47, 48, 49, 50, 51, 52, 53, 54, 55, 56, 57, 58, 59, 60, 61, 62, 63, 64, 65, 66, 67, 68, 69, 70, 71, 72, 73] (by decide +kernel) (by decide +kernel)
set_option maxRecDepth 20000 in
theorem gX7_byAddress_X7_nextWord : GoodIn wsX7_byAddress (wsV RX7 153 RX7 yX7_nextWord wsX7_nextWord) := goodIn_app (goodIn_of _ (by decide +kernel)) ggX7_byAddress_X7_nextWord
set_option maxRecDepth 20000 in
theorem ggX7_byAddress_X7_hl : GoodIn wsX7_byAddress wsX7_hl := goodIn_r _ [27, 2, 44, 45, 46, 47, 48, 49, 50, 51, 52, 53, 54, 55, 56, 57, 58, 59, 60, 61, 62, 63, 64, 65, 66, 67, 68, 69, 70, 71, 72, 73] (by decide +kernel) (by decide +kernel)
set_option maxRecDepth 20000 in
theorem gX7_byAddress_X7_hl : GoodIn wsX7_byAddress (wsV RX7 64 RX7 yX7_hl wsX7_hl) := goodIn_app (goodIn_of _ (by decide +kernel)) ggX7_byAddress_X7_hl
set_option maxRecDepth 20000 in
theorem ggX7_byAddress_X7_setWord : GoodIn wsX7_byAddress wsX7_setWord := goodIn_r _ [31, 32, 33, 34, 6, 35, 23, 44, 45, 46, 47, 48, 49, 50, 51, 52, 53, 54, 55, 56, 57, 58, 59, 60, 61, 62, 63, 64, 65, 66, 67, 68, 69, 70, 71, 72, 73] (by decide +kernel) (by decide +kernel)
set_option maxRecDepth 20000 in
theorem gX7_byAddress_X7_setWord : GoodIn wsX7_byAddress (wsV RX7 58 RX7 yX7_setWord wsX7_setWord) := goodIn_app (goodIn_of _ (by decide +kernel)) ggX7_byAddress_X7_setWord
set_option maxRecDepth 20000 in
theorem ggX7_byAddress_X7_getWord : GoodIn wsX7_byAddress wsX7_getWord := goodIn_r _ [39, 19, 20, 21, 6, 22, 23, 44, 45, 46, 47, 48, 49, 50, 51, 52, 53, 54, 55, 56, 57, 58, 59, 60, 61, 62, 63, 64, 65, 66, 67, 68, 69, 70, 71, 72, 73] (by decide +kernel) (by decide +kernel)
set_option maxRecDepth 20000 in
theorem gX7_byAddress_X7_getWord : GoodIn wsX7_byAddress (wsV RX7 61 RX7 yX7_getWord wsX7_getWord) := goodIn_app (goodIn_of _ (by decide +kernel)) ggX7_byAddress_X7_getWord
set_option maxRecDepth 20000 in
theorem ggX7_byAddress_X7_setPair : GoodIn wsX7_byAddress wsX7_setPair := goodIn_r _ [43, 18, 8, 2, 44, 45, 46, 47, 48, 49, 50, 51, 52, 53, 54, 55, 56, 57, 58, 59, 60, 61, 62, 63, 64, 65, 66, 67, 68, 69, 70, 71, 72, 73] (by decide +kernel) (by decide +kernel)
set_option maxRecDepth 20000 in
theorem gX7_byAddress_X7_setPair : GoodIn wsX7_byAddress (wsV RX7 150 RX7 yX7_setPair wsX7_setPair) := goodIn_app (goodIn_of _ (by decide +kernel)) ggX7_byAddress_X7_setPair
set_option maxRecDepth 20000 in
theorem ggX7_byAddress_X7_set : GoodIn wsX7_byAddress wsX7_set := goodIn_r _ [35, 23, 44, 45, 46, 47, 48, 49, 50, 51, 52, 53, 54, 55, 56, 57, 58, 59, 60, 61, 62, 63, 64, 65, 66, 67, 68, 69, 70, 71, 72, 73] (by decide +kernel) (by decide +kernel)
set_option maxRecDepth 20000 in
theorem gX7_byAddress_X7_set : GoodIn wsX7_byAddress (wsV RX7 43 RX7 yX7_set wsX7_set) := goodIn_app (goodIn_of _ (by decide +kernel)) ggX7_byAddress_X7_set
set_option maxRecDepth 20000 in
theorem ggX7_byAddress_X7_get : GoodIn wsX7_byAddress wsX7_get := goodIn_r _ [22, 23, 44, 45, 46, 47, 48, 49, 50, 51, 52, 53, 54, 55, 56, 57, 58, 59, 60, 61, 62, 63, 64, 65, 66, 67, 68, 69, 70, 71, 72, 73] (by decide +kernel) (by decide +kernel)
set_option maxRecDepth 20000 in
theorem gX7_byAddress_X7_get : GoodIn wsX7_byAddress (wsV RX7 39 RX7 yX7_get wsX7_get) := goodIn_app (goodIn_of _ (by decide +kernel)) ggX7_byAddress_X7_get
theorem dX7_byAddress_0 : decode cX7_byAddress 0 = .ok (.iload_n 1, 1) := by decide +kernel
theorem dX7_byAddress_1 : decode cX7_byAddress 1 = .ok (.iconst 4, 1) := by decide +kernel
theorem dX7_byAddress_2 : decode cX7_byAddress 2 = .ok (.if_icmp .ge 13, 3) := by decide +kernel
theorem dX7_byAddress_5 : decode cX7_byAddress 5 = .ok (.aload_n 0, 1) := by decide +kernel
theorem dX7_byAddress_6 : decode cX7_byAddress 6 = .ok (.iload_n 1, 1) := by decide +kernel
theorem dX7_byAddress_7 : decode cX7_byAddress 7 = .ok (.iconst 2, 1) := by decide +kernel
theorem dX7_byAddress_8 : decode cX7_byAddress 8 = .ok (.idiv, 1) := by decide +kernel
theorem dX7_byAddress_9 : decode cX7_byAddress 9 = .ok (.invokevirtual 147, 3) := by decide +kernel
theorem dX7_byAddress_12 : decode cX7_byAddress 12 = .ok (.goto 7, 3) := by decide +kernel
theorem dX7_byAddress_15 : decode cX7_byAddress 15 = .ok (.aload_n 0, 1) := by decide +kernel
theorem dX7_byAddress_16 : decode cX7_byAddress 16 = .ok (.invokevirtual 153, 3) := by decide +kernel
theorem dX7_byAddress_19 : decode cX7_byAddress 19 = .ok (.istore_n 2, 1) := by decide +kernel
theorem dX7_byAddress_20 : decode cX7_byAddress 20 = .ok (.aload_n 0, 1) := by decide +kernel
theorem dX7_byAddress_21 : decode cX7_byAddress 21 = .ok (.iload_n 1, 1) := by decide +kernel
theorem dX7_byAddress_22 : decode cX7_byAddress 22 = .ok (.iconst 4, 1) := by decide +kernel
theorem dX7_byAddress_23 : decode cX7_byAddress 23 = .ok (.if_icmp .ge 8, 3) := by decide +kernel
theorem dX7_byAddress_26 : decode cX7_byAddress 26 = .ok (.bipush 7, 2) := by decide +kernel
theorem dX7_byAddress_28 : decode cX7_byAddress 28 = .ok (.goto 16, 3) := by decide +kernel
theorem dX7_byAddress_31 : decode cX7_byAddress 31 = .ok (.iload_n 1, 1) := by decide +kernel
theorem dX7_byAddress_32 : decode cX7_byAddress 32 = .ok (.bipush 6, 2) := by decide +kernel
theorem dX7_byAddress_34 : decode cX7_byAddress 34 = .ok (.if_icmp .ge 8, 3) := by decide +kernel
theorem dX7_byAddress_37 : decode cX7_byAddress 37 = .ok (.bipush 16, 2) := by decide +kernel
theorem dX7_byAddress_39 : decode cX7_byAddress 39 = .ok (.goto 5, 3) := by decide +kernel
theorem dX7_byAddress_42 : decode cX7_byAddress 42 = .ok (.bipush 13, 2) := by decide +kernel
theorem dX7_byAddress_44 : decode cX7_byAddress 44 = .ok (.putfield 141, 3) := by decide +kernel
theorem dX7_byAddress_47 : decode cX7_byAddress 47 = .ok (.iload_n 1, 1) := by decide +kernel
theorem dX7_byAddress_48 : decode cX7_byAddress 48 = .ok (.iconst 4, 1) := by decide +kernel
theorem dX7_byAddress_49 : decode cX7_byAddress 49 = .ok (.if_icmp .ne 15, 3) := by decide +kernel
theorem dX7_byAddress_52 : decode cX7_byAddress 52 = .ok (.aload_n 0, 1) := by decide +kernel
theorem dX7_byAddress_53 : decode cX7_byAddress 53 = .ok (.iload_n 2, 1) := by decide +kernel
theorem dX7_byAddress_54 : decode cX7_byAddress 54 = .ok (.aload_n 0, 1) := by decide +kernel
theorem dX7_byAddress_55 : decode cX7_byAddress 55 = .ok (.invokevirtual 64, 3) := by decide +kernel
theorem dX7_byAddress_58 : decode cX7_byAddress 58 = .ok (.invokevirtual 58, 3) := by decide +kernel
theorem dX7_byAddress_61 : decode cX7_byAddress 61 = .ok (.goto 54, 3) := by decide +kernel
theorem dX7_byAddress_64 : decode cX7_byAddress 64 = .ok (.iload_n 1, 1) := by decide +kernel
theorem dX7_byAddress_65 : decode cX7_byAddress 65 = .ok (.iconst 5, 1) := by decide +kernel
theorem dX7_byAddress_66 : decode cX7_byAddress 66 = .ok (.if_icmp .ne 16, 3) := by decide +kernel
theorem dX7_byAddress_69 : decode cX7_byAddress 69 = .ok (.aload_n 0, 1) := by decide +kernel
theorem dX7_byAddress_70 : decode cX7_byAddress 70 = .ok (.iconst 2, 1) := by decide +kernel
theorem dX7_byAddress_71 : decode cX7_byAddress 71 = .ok (.aload_n 0, 1) := by decide +kernel
theorem dX7_byAddress_72 : decode cX7_byAddress 72 = .ok (.iload_n 2, 1) := by decide +kernel
theorem dX7_byAddress_73 : decode cX7_byAddress 73 = .ok (.invokevirtual 61, 3) := by decide +kernel
theorem dX7_byAddress_76 : decode cX7_byAddress 76 = .ok (.invokevirtual 150, 3) := by decide +kernel
theorem dX7_byAddress_79 : decode cX7_byAddress 79 = .ok (.goto 36, 3) := by decide +kernel
theorem dX7_byAddress_82 : decode cX7_byAddress 82 = .ok (.iload_n 1, 1) := by decide +kernel
theorem dX7_byAddress_83 : decode cX7_byAddress 83 = .ok (.iconst 2, 1) := by decide +kernel
theorem dX7_byAddress_84 : decode cX7_byAddress 84 = .ok (.irem, 1) := by decide +kernel
theorem dX7_byAddress_85 : decode cX7_byAddress 85 = .ok (.ifCond .ne 18, 3) := by decide +kernel
theorem dX7_byAddress_88 : decode cX7_byAddress 88 = .ok (.aload_n 0, 1) := by decide +kernel
theorem dX7_byAddress_89 : decode cX7_byAddress 89 = .ok (.iload_n 2, 1) := by decide +kernel
theorem dX7_byAddress_90 : decode cX7_byAddress 90 = .ok (.aload_n 0, 1) := by decide +kernel
theorem dX7_byAddress_91 : decode cX7_byAddress 91 = .ok (.getfield 16, 3) := by decide +kernel
theorem dX7_byAddress_94 : decode cX7_byAddress 94 = .ok (.bipush 7, 2) := by decide +kernel
theorem dX7_byAddress_96 : decode cX7_byAddress 96 = .ok (.iaload, 1) := by decide +kernel
theorem dX7_byAddress_97 : decode cX7_byAddress 97 = .ok (.invokevirtual 43, 3) := by decide +kernel
theorem dX7_byAddress_100 : decode cX7_byAddress 100 = .ok (.goto 15, 3) := by decide +kernel
theorem dX7_byAddress_103 : decode cX7_byAddress 103 = .ok (.aload_n 0, 1) := by decide +kernel
theorem dX7_byAddress_104 : decode cX7_byAddress 104 = .ok (.getfield 16, 3) := by decide +kernel
theorem dX7_byAddress_107 : decode cX7_byAddress 107 = .ok (.bipush 7, 2) := by decide +kernel
theorem dX7_byAddress_109 : decode cX7_byAddress 109 = .ok (.aload_n 0, 1) := by decide +kernel
theorem dX7_byAddress_110 : decode cX7_byAddress 110 = .ok (.iload_n 2, 1) := by decide +kernel
theorem dX7_byAddress_111 : decode cX7_byAddress 111 = .ok (.invokevirtual 39, 3) := by decide +kernel
theorem dX7_byAddress_114 : decode cX7_byAddress 114 = .ok (.iastore, 1) := by decide +kernel
theorem dX7_byAddress_115 : decode cX7_byAddress 115 = .ok (.return_, 1) := by decide +kernel
set_option maxRecDepth 20000 in
theorem ggX7_jumpTo_X7_nextWord : GoodIn wsX7_jumpTo wsX7_nextWord := goodIn_r _ [7, 8, 9, 10, 6, 11, 2, 12, 13, 14, 15, 16, 17, 31, 32, 33, 34, 35, 36, 37, 38, 39, 40, 41, 42, 43, 44, 45, 46, 47, 48, 49, 50, 51, 52, 53, 54, 55, 56, 57, 58, 59, 60] (by decide +kernel) (by decide +kernel)
set_option maxRecDepth 20000 in
theorem gX7_jumpTo_X7_nextWord : GoodIn wsX7_jumpTo (wsV RX7 153 RX7 yX7_nextWord wsX7_nextWord) := goodIn_app (goodIn_of _ (by decide +kernel)) ggX7_jumpTo_X7_nextWord
set_option maxRecDepth 20000 in
theorem ggX7_jumpTo_X7_push : GoodIn wsX7_jumpTo wsX7_push := goodIn_r _ [21, 22, 12, 23, 24, 25, 6, 26, 27, 28, 29, 30, 17, 31, 32, 33, 34, 35, 36, 37, 38, 39, 40, 41, 42, 43, 44, 45, 46, 47, 48, 49, 50, 51, 52, 53, 54, 55, 56, 57, 58, 59, 60] (by decide +kernel) (by decide +kernel)
set_option maxRecDepth 20000 in
theorem gX7_jumpTo_X7_push : GoodIn wsX7_jumpTo (wsV RX7 168 RX7 yX7_push wsX7_push) := goodIn_app (goodIn_of _ (by decide +kernel)) ggX7_jumpTo_X7_push
theorem dX7_jumpTo_0 : decode cX7_jumpTo 0 = .ok (.aload_n 0, 1) := by decide +kernel
theorem dX7_jumpTo_1 : decode cX7_jumpTo 1 = .ok (.invokevirtual 153, 3) := by decide +kernel
theorem dX7_jumpTo_4 : decode cX7_jumpTo 4 = .ok (.istore 4, 2) := by decide +kernel
theorem dX7_jumpTo_6 : decode cX7_jumpTo 6 = .ok (.aload_n 0, 1) := by decide +kernel
theorem dX7_jumpTo_7 : decode cX7_jumpTo 7 = .ok (.iload_n 3, 1) := by decide +kernel
theorem dX7_jumpTo_8 : decode cX7_jumpTo 8 = .ok (.putfield 141, 3) := by decide +kernel
theorem dX7_jumpTo_11 : decode cX7_jumpTo 11 = .ok (.iload_n 1, 1) := by decide +kernel
theorem dX7_jumpTo_12 : decode cX7_jumpTo 12 = .ok (.ifCond .eq 15, 3) := by decide +kernel
theorem dX7_jumpTo_15 : decode cX7_jumpTo 15 = .ok (.iload_n 2, 1) := by decide +kernel
theorem dX7_jumpTo_16 : decode cX7_jumpTo 16 = .ok (.ifCond .eq 11, 3) := by decide +kernel
theorem dX7_jumpTo_19 : decode cX7_jumpTo 19 = .ok (.aload_n 0, 1) := by decide +kernel
theorem dX7_jumpTo_20 : decode cX7_jumpTo 20 = .ok (.aload_n 0, 1) := by decide +kernel
theorem dX7_jumpTo_21 : decode cX7_jumpTo 21 = .ok (.getfield 47, 3) := by decide +kernel
theorem dX7_jumpTo_24 : decode cX7_jumpTo 24 = .ok (.invokevirtual 168, 3) := by decide +kernel
theorem dX7_jumpTo_27 : decode cX7_jumpTo 27 = .ok (.aload_n 0, 1) := by decide +kernel
theorem dX7_jumpTo_28 : decode cX7_jumpTo 28 = .ok (.iload_n 1, 1) := by decide +kernel
theorem dX7_jumpTo_29 : decode cX7_jumpTo 29 = .ok (.ifCond .eq 8, 3) := by decide +kernel
theorem dX7_jumpTo_32 : decode cX7_jumpTo 32 = .ok (.iload 4, 2) := by decide +kernel
theorem dX7_jumpTo_34 : decode cX7_jumpTo 34 = .ok (.goto 7, 3) := by decide +kernel
theorem dX7_jumpTo_37 : decode cX7_jumpTo 37 = .ok (.aload_n 0, 1) := by decide +kernel
theorem dX7_jumpTo_38 : decode cX7_jumpTo 38 = .ok (.getfield 47, 3) := by decide +kernel
theorem dX7_jumpTo_41 : decode cX7_jumpTo 41 = .ok (.putfield 47, 3) := by decide +kernel
theorem dX7_jumpTo_44 : decode cX7_jumpTo 44 = .ok (.return_, 1) := by decide +kernel
set_option maxRecDepth 20000 in
theorem ggX7_three_X7_holds : GoodIn wsX7_three wsX7_holds := goodIn_r _ [8, 9, 10, 11, 12, 121, 122, 123, 124, 125, 126, 127, 128, 129, 130, 131, 132, 133, 134, 135, 136, 137, 138, 139, 140, 141, 142, 143, 144, 145, 146, 147, 148, 149, 150] (by decide +kernel) (by decide +kernel)
set_option maxRecDepth 20000 in
theorem gX7_three_X7_holds : GoodIn wsX7_three (wsV RX7 171 RX7 yX7_holds wsX7_holds) := goodIn_app (goodIn_of _ (by decide +kernel)) ggX7_three_X7_holds
set_option maxRecDepth 20000 in
theorem ggX7_three_X7_pop : GoodIn wsX7_three wsX7_pop := goodIn_r _ [16, 17, 18, 19, 20, 21, 7, 22, 23, 24, 25, 26, 27, 121, 122, 123, 124, 125, 126, 127, 128, 129, 130, 131, 132, 133, 134, 135, 136, 137, 138, 139, 140, 141, 142, 143, 144, 145, 146, 147, 148, 149, 150] (by decide +kernel) (by decide +kernel)
set_option maxRecDepth 20000 in
theorem gX7_three_X7_pop : GoodIn wsX7_three (wsV RX7 174 RX7 yX7_pop wsX7_pop) := goodIn_app (goodIn_of _ (by decide +kernel)) ggX7_three_X7_pop
set_option maxRecDepth 20000 in
theorem ggX7_three_X7_single : GoodIn wsX7_three wsX7_single := goodIn_r _ [31, 1, 3, 2, 17, 13, 14, 15, 7, 16, 18, 19, 20, 21, 22, 23, 24, 25, 26, 27, 32, 33, 34, 35, 12, 9, 36, 11, 10, 37, 38, 39, 40, 41, 42, 43, 44, 121, 122, 123, 124, 125, 126, 127, 128, 129, 130, 131, 132, 133, 134, 135, 136, 137, 138, 139, 140, 141, 142, 143, 144, 145, 146, 147, 148, 149, 150] (by decide +kernel) (by decide +kernel)
set_option maxRecDepth 20000 in
theorem gX7_three_X7_single : GoodIn wsX7_three (wsV RX7 177 RX7 yX7_single wsX7_single) := goodIn_app (goodIn_of _ (by decide +kernel)) ggX7_three_X7_single
set_option maxRecDepth 20000 in
theorem ggX7_three_X7_jumpTo : GoodIn wsX7_three wsX7_jumpTo := goodIn_r _ [48, 1, 2, 49, 50, 51, 7, 52, 53, 54, 55, 56, 18, 23, 24, 25, 26, 27, 57, 58, 59, 60, 17, 61, 62, 63, 64, 65, 66, 67, 68, 121, 122, 123, 124, 125, 126, 127, 128, 129, 130, 131, 132, 133, 134, 135, 136, 137, 138, 139, 140, 141, 142, 143, 144, 145, 146, 147, 148, 149, 150] (by decide +kernel) (by decide +kernel)
set_option maxRecDepth 20000 in
theorem gX7_three_X7_jumpTo : GoodIn wsX7_three (wsV RX7 180 RX7 yX7_jumpTo wsX7_jumpTo) := goodIn_app (goodIn_of _ (by decide +kernel)) ggX7_three_X7_jumpTo
set_option maxRecDepth 20000 in
theorem ggX7_three_X7_special : GoodIn wsX7_three wsX7_special := goodIn_r _ [72, 1, 2, 3, 17, 73, 74, 49, 50, 51, 7, 52, 53, 54, 55, 56, 18, 23, 24, 25, 26, 27, 75, 76, 77, 78, 79, 80, 81, 82, 83, 84, 85, 86, 87, 88, 89, 90, 91, 92, 93, 94, 95, 96, 19, 20, 21, 22, 41, 42, 43, 44, 61, 62, 63, 64, 65, 66, 67, 68, 37, 38, 39, 40, 97, 98, 99, 100, 121, 122, 123, 124, 125, 126, 127, 128, 129, 130, 131, 132, 133, 134, 135, 136, 137, 138, 139, 140, 141, 142, 143, 144, 145, 146, 147, 148, 149, 150] (by decide +kernel) (by decide +kernel)
set_option maxRecDepth 20000 in
theorem gX7_three_X7_special : GoodIn wsX7_three (wsV RX7 184 RX7 yX7_special wsX7_special) := goodIn_app (goodIn_of _ (by decide +kernel)) ggX7_three_X7_special
set_option maxRecDepth 20000 in
theorem ggX7_three_X7_flags : GoodIn wsX7_three wsX7_flags := goodIn_r _ [104, 12, 9, 36, 11, 10, 121, 122, 123, 124, 125, 126, 127, 128, 129, 130, 131, 132, 133, 134, 135, 136, 137, 138, 139, 140, 141, 142, 143, 144, 145, 146, 147, 148, 149, 150] (by decide +kernel) (by decide +kernel)
set_option maxRecDepth 20000 in
theorem gX7_three_X7_flags : GoodIn wsX7_three (wsV RX7 83 RX7 yX7_flags wsX7_flags) := goodIn_app (goodIn_of _ (by decide +kernel)) ggX7_three_X7_flags
set_option maxRecDepth 20000 in
theorem ggX7_three_X7_pair : GoodIn wsX7_three wsX7_pair := goodIn_r _ [100, 17, 3, 121, 122, 123, 124, 125, 126, 127, 128, 129, 130, 131, 132, 133, 134, 135, 136, 137, 138, 139, 140, 141, 142, 143, 144, 145, 146, 147, 148, 149, 150] (by decide +kernel) (by decide +kernel)
set_option maxRecDepth 20000 in
theorem gX7_three_X7_pair : GoodIn wsX7_three (wsV RX7 147 RX7 yX7_pair wsX7_pair) := goodIn_app (goodIn_of _ (by decide +kernel)) ggX7_three_X7_pair
set_option maxRecDepth 20000 in
theorem ggX7_three_X7_push : GoodIn wsX7_three wsX7_push := goodIn_r _ [60, 17, 18, 61, 62, 63, 7, 64, 65, 66, 67, 68, 27, 121, 122, 123, 124, 125, 126, 127, 128, 129, 130, 131, 132, 133, 134, 135, 136, 137, 138, 139, 140, 141, 142, 143, 144, 145, 146, 147, 148, 149, 150] (by decide +kernel) (by decide +kernel)
set_option maxRecDepth 20000 in
theorem gX7_three_X7_push : GoodIn wsX7_three (wsV RX7 168 RX7 yX7_push wsX7_push) := goodIn_app (goodIn_of _ (by decide +kernel)) ggX7_three_X7_push
set_option maxRecDepth 20000 in
theorem ggX7_three_X7_next : GoodIn wsX7_three wsX7_next := goodIn_r _ [56, 2, 18, 23, 24, 25, 7, 26, 27, 121, 122, 123, 124, 125, 126, 127, 128, 129, 130, 131, 132, 133, 134, 135, 136, 137, 138, 139, 140, 141, 142, 143, 144, 145, 146, 147, 148, 149, 150] (by decide +kernel) (by decide +kernel)
set_option maxRecDepth 20000 in
theorem gX7_three_X7_next : GoodIn wsX7_three (wsV RX7 51 RX7 yX7_next wsX7_next) := goodIn_app (goodIn_of _ (by decide +kernel)) ggX7_three_X7_next
set_option maxRecDepth 20000 in
theorem ggX7_three_X7_reckon : GoodIn wsX7_three wsX7_reckon := goodIn_r _ [108, 3, 10, 36, 109, 110, 111, 7, 112, 113, 114, 115, 116, 12, 9, 11, 117, 118, 119, 120, 121, 122, 123, 124, 125, 126, 127, 128, 129, 130, 131, 132, 133, 134, 135, 136, 137, 138, 139, 140, 141, 142, 143, 144, 145, 146, 147, 148, 149, 150] (by decide +kernel) (by decide +kernel)
set_option maxRecDepth 20000 in
theorem gX7_three_X7_reckon : GoodIn wsX7_three (wsV RX7 187 RX7 yX7_reckon wsX7_reckon) := goodIn_app (goodIn_of _ (by decide +kernel)) ggX7_three_X7_reckon
theorem dX7_three_0 : decode cX7_three 0 = .ok (.iload_n 1, 1) := by decide +kernel
theorem dX7_three_1 : decode cX7_three 1 = .ok (.iconst 2, 1) := by decide +kernel
theorem dX7_three_2 : decode cX7_three 2 = .ok (.irem, 1) := by decide +kernel
theorem dX7_three_3 : decode cX7_three 3 = .ok (.iconst 1, 1) := by decide +kernel
theorem dX7_three_4 : decode cX7_three 4 = .ok (.if_icmp .ne 7, 3) := by decide +kernel
theorem dX7_three_7 : decode cX7_three 7 = .ok (.iconst 1, 1) := by decide +kernel
theorem dX7_three_8 : decode cX7_three 8 = .ok (.goto 4, 3) := by decide +kernel
theorem dX7_three_11 : decode cX7_three 11 = .ok (.iconst 0, 1) := by decide +kernel
theorem dX7_three_12 : decode cX7_three 12 = .ok (.istore_n 3, 1) := by decide +kernel
theorem dX7_three_13 : decode cX7_three 13 = .ok (.iload_n 2, 1) := by decide +kernel
theorem dX7_three_14 : decode cX7_three 14 = .ok (.tableswitch 222 0 6 #[42, 86, 94, 109, 117, 145, 204], 42) := by decide +kernel
theorem dX7_three_56 : decode cX7_three 56 = .ok (.aload_n 0, 1) := by decide +kernel
theorem dX7_three_57 : decode cX7_three 57 = .ok (.aload_n 0, 1) := by decide +kernel
theorem dX7_three_58 : decode cX7_three 58 = .ok (.iload_n 1, 1) := by decide +kernel
theorem dX7_three_59 : decode cX7_three 59 = .ok (.invokevirtual 171, 3) := by decide +kernel
theorem dX7_three_62 : decode cX7_three 62 = .ok (.ifCond .eq 8, 3) := by decide +kernel
theorem dX7_three_65 : decode cX7_three 65 = .ok (.bipush 11, 2) := by decide +kernel
theorem dX7_three_67 : decode cX7_three 67 = .ok (.goto 4, 3) := by decide +kernel
theorem dX7_three_70 : decode cX7_three 70 = .ok (.iconst 5, 1) := by decide +kernel
theorem dX7_three_71 : decode cX7_three 71 = .ok (.putfield 141, 3) := by decide +kernel
theorem dX7_three_74 : decode cX7_three 74 = .ok (.aload_n 0, 1) := by decide +kernel
theorem dX7_three_75 : decode cX7_three 75 = .ok (.aload_n 0, 1) := by decide +kernel
theorem dX7_three_76 : decode cX7_three 76 = .ok (.iload_n 1, 1) := by decide +kernel
theorem dX7_three_77 : decode cX7_three 77 = .ok (.invokevirtual 171, 3) := by decide +kernel
theorem dX7_three_80 : decode cX7_three 80 = .ok (.ifCond .eq 10, 3) := by decide +kernel
theorem dX7_three_83 : decode cX7_three 83 = .ok (.aload_n 0, 1) := by decide +kernel
theorem dX7_three_84 : decode cX7_three 84 = .ok (.invokevirtual 174, 3) := by decide +kernel
theorem dX7_three_87 : decode cX7_three 87 = .ok (.goto 7, 3) := by decide +kernel
theorem dX7_three_90 : decode cX7_three 90 = .ok (.aload_n 0, 1) := by decide +kernel
theorem dX7_three_91 : decode cX7_three 91 = .ok (.getfield 47, 3) := by decide +kernel
theorem dX7_three_94 : decode cX7_three 94 = .ok (.putfield 47, 3) := by decide +kernel
theorem dX7_three_97 : decode cX7_three 97 = .ok (.goto 161, 3) := by decide +kernel
theorem dX7_three_100 : decode cX7_three 100 = .ok (.aload_n 0, 1) := by decide +kernel
theorem dX7_three_101 : decode cX7_three 101 = .ok (.iload_n 1, 1) := by decide +kernel
theorem dX7_three_102 : decode cX7_three 102 = .ok (.invokevirtual 177, 3) := by decide +kernel
theorem dX7_three_105 : decode cX7_three 105 = .ok (.goto 153, 3) := by decide +kernel
theorem dX7_three_108 : decode cX7_three 108 = .ok (.aload_n 0, 1) := by decide +kernel
theorem dX7_three_109 : decode cX7_three 109 = .ok (.aload_n 0, 1) := by decide +kernel
theorem dX7_three_110 : decode cX7_three 110 = .ok (.iload_n 1, 1) := by decide +kernel
theorem dX7_three_111 : decode cX7_three 111 = .ok (.invokevirtual 171, 3) := by decide +kernel
theorem dX7_three_114 : decode cX7_three 114 = .ok (.iconst 0, 1) := by decide +kernel
theorem dX7_three_115 : decode cX7_three 115 = .ok (.bipush 10, 2) := by decide +kernel
theorem dX7_three_117 : decode cX7_three 117 = .ok (.invokevirtual 180, 3) := by decide +kernel
theorem dX7_three_120 : decode cX7_three 120 = .ok (.goto 138, 3) := by decide +kernel
theorem dX7_three_123 : decode cX7_three 123 = .ok (.aload_n 0, 1) := by decide +kernel
theorem dX7_three_124 : decode cX7_three 124 = .ok (.iload_n 1, 1) := by decide +kernel
theorem dX7_three_125 : decode cX7_three 125 = .ok (.invokevirtual 184, 3) := by decide +kernel
theorem dX7_three_128 : decode cX7_three 128 = .ok (.goto 130, 3) := by decide +kernel
theorem dX7_three_131 : decode cX7_three 131 = .ok (.aload_n 0, 1) := by decide +kernel
theorem dX7_three_132 : decode cX7_three 132 = .ok (.aload_n 0, 1) := by decide +kernel
theorem dX7_three_133 : decode cX7_three 133 = .ok (.iload_n 1, 1) := by decide +kernel
theorem dX7_three_134 : decode cX7_three 134 = .ok (.invokevirtual 171, 3) := by decide +kernel
theorem dX7_three_137 : decode cX7_three 137 = .ok (.iconst 1, 1) := by decide +kernel
theorem dX7_three_138 : decode cX7_three 138 = .ok (.aload_n 0, 1) := by decide +kernel
theorem dX7_three_139 : decode cX7_three 139 = .ok (.iload_n 1, 1) := by decide +kernel
theorem dX7_three_140 : decode cX7_three 140 = .ok (.invokevirtual 171, 3) := by decide +kernel
theorem dX7_three_143 : decode cX7_three 143 = .ok (.ifCond .eq 8, 3) := by decide +kernel
theorem dX7_three_146 : decode cX7_three 146 = .ok (.bipush 17, 2) := by decide +kernel
theorem dX7_three_148 : decode cX7_three 148 = .ok (.goto 5, 3) := by decide +kernel
theorem dX7_three_151 : decode cX7_three 151 = .ok (.bipush 11, 2) := by decide +kernel
theorem dX7_three_153 : decode cX7_three 153 = .ok (.invokevirtual 180, 3) := by decide +kernel
theorem dX7_three_156 : decode cX7_three 156 = .ok (.goto 102, 3) := by decide +kernel
theorem dX7_three_159 : decode cX7_three 159 = .ok (.iload_n 3, 1) := by decide +kernel
theorem dX7_three_160 : decode cX7_three 160 = .ok (.ifCond .eq 14, 3) := by decide +kernel
theorem dX7_three_163 : decode cX7_three 163 = .ok (.aload_n 0, 1) := by decide +kernel
theorem dX7_three_164 : decode cX7_three 164 = .ok (.iconst 1, 1) := by decide +kernel
theorem dX7_three_165 : decode cX7_three 165 = .ok (.iconst 1, 1) := by decide +kernel
theorem dX7_three_166 : decode cX7_three 166 = .ok (.bipush 17, 2) := by decide +kernel
theorem dX7_three_168 : decode cX7_three 168 = .ok (.invokevirtual 180, 3) := by decide +kernel
theorem dX7_three_171 : decode cX7_three 171 = .ok (.goto 87, 3) := by decide +kernel
theorem dX7_three_174 : decode cX7_three 174 = .ok (.aload_n 0, 1) := by decide +kernel
theorem dX7_three_175 : decode cX7_three 175 = .ok (.bipush 11, 2) := by decide +kernel
theorem dX7_three_177 : decode cX7_three 177 = .ok (.putfield 141, 3) := by decide +kernel
theorem dX7_three_180 : decode cX7_three 180 = .ok (.aload_n 0, 1) := by decide +kernel
theorem dX7_three_181 : decode cX7_three 181 = .ok (.iload_n 1, 1) := by decide +kernel
theorem dX7_three_182 : decode cX7_three 182 = .ok (.bipush 6, 2) := by decide +kernel
theorem dX7_three_184 : decode cX7_three 184 = .ok (.if_icmp .ne 21, 3) := by decide +kernel
theorem dX7_three_187 : decode cX7_three 187 = .ok (.aload_n 0, 1) := by decide +kernel
theorem dX7_three_188 : decode cX7_three 188 = .ok (.getfield 16, 3) := by decide +kernel
theorem dX7_three_191 : decode cX7_three 191 = .ok (.bipush 7, 2) := by decide +kernel
theorem dX7_three_193 : decode cX7_three 193 = .ok (.iaload, 1) := by decide +kernel
theorem dX7_three_194 : decode cX7_three 194 = .ok (.bipush 8, 2) := by decide +kernel
theorem dX7_three_196 : decode cX7_three 196 = .ok (.ishl, 1) := by decide +kernel
theorem dX7_three_197 : decode cX7_three 197 = .ok (.aload_n 0, 1) := by decide +kernel
theorem dX7_three_198 : decode cX7_three 198 = .ok (.invokevirtual 83, 3) := by decide +kernel
theorem dX7_three_201 : decode cX7_three 201 = .ok (.ior, 1) := by decide +kernel
theorem dX7_three_202 : decode cX7_three 202 = .ok (.goto 10, 3) := by decide +kernel
theorem dX7_three_205 : decode cX7_three 205 = .ok (.aload_n 0, 1) := by decide +kernel
theorem dX7_three_206 : decode cX7_three 206 = .ok (.iload_n 1, 1) := by decide +kernel
theorem dX7_three_207 : decode cX7_three 207 = .ok (.iconst 2, 1) := by decide +kernel
theorem dX7_three_208 : decode cX7_three 208 = .ok (.idiv, 1) := by decide +kernel
theorem dX7_three_209 : decode cX7_three 209 = .ok (.invokevirtual 147, 3) := by decide +kernel
theorem dX7_three_212 : decode cX7_three 212 = .ok (.invokevirtual 168, 3) := by decide +kernel
theorem dX7_three_215 : decode cX7_three 215 = .ok (.goto 43, 3) := by decide +kernel
theorem dX7_three_218 : decode cX7_three 218 = .ok (.aload_n 0, 1) := by decide +kernel
theorem dX7_three_219 : decode cX7_three 219 = .ok (.bipush 7, 2) := by decide +kernel
theorem dX7_three_221 : decode cX7_three 221 = .ok (.putfield 141, 3) := by decide +kernel
theorem dX7_three_224 : decode cX7_three 224 = .ok (.aload_n 0, 1) := by decide +kernel
theorem dX7_three_225 : decode cX7_three 225 = .ok (.iload_n 1, 1) := by decide +kernel
theorem dX7_three_226 : decode cX7_three 226 = .ok (.aload_n 0, 1) := by decide +kernel
theorem dX7_three_227 : decode cX7_three 227 = .ok (.invokevirtual 51, 3) := by decide +kernel
theorem dX7_three_230 : decode cX7_three 230 = .ok (.invokevirtual 187, 3) := by decide +kernel
theorem dX7_three_233 : decode cX7_three 233 = .ok (.goto 25, 3) := by decide +kernel
theorem dX7_three_236 : decode cX7_three 236 = .ok (.aload_n 0, 1) := by decide +kernel
theorem dX7_three_237 : decode cX7_three 237 = .ok (.bipush 11, 2) := by decide +kernel
theorem dX7_three_239 : decode cX7_three 239 = .ok (.putfield 141, 3) := by decide +kernel
theorem dX7_three_242 : decode cX7_three 242 = .ok (.aload_n 0, 1) := by decide +kernel
theorem dX7_three_243 : decode cX7_three 243 = .ok (.aload_n 0, 1) := by decide +kernel
theorem dX7_three_244 : decode cX7_three 244 = .ok (.getfield 47, 3) := by decide +kernel
theorem dX7_three_247 : decode cX7_three 247 = .ok (.invokevirtual 168, 3) := by decide +kernel
theorem dX7_three_250 : decode cX7_three 250 = .ok (.aload_n 0, 1) := by decide +kernel
theorem dX7_three_251 : decode cX7_three 251 = .ok (.bipush 8, 2) := by decide +kernel
theorem dX7_three_253 : decode cX7_three 253 = .ok (.iload_n 1, 1) := by decide +kernel
theorem dX7_three_254 : decode cX7_three 254 = .ok (.imul, 1) := by decide +kernel
theorem dX7_three_255 : decode cX7_three 255 = .ok (.putfield 47, 3) := by decide +kernel
theorem dX7_three_258 : decode cX7_three 258 = .ok (.return_, 1) := by decide +kernel
set_option maxRecDepth 20000 in
theorem ggX7_single_X7_pop : GoodIn wsX7_single wsX7_pop := goodIn_r _ [9, 4, 10, 11, 12, 13, 8, 14, 15, 16, 17, 18, 19, 37, 38, 39, 40, 41, 42, 43, 44, 45, 46, 47, 48, 49, 50, 51, 52, 53, 54, 55, 56, 57, 58, 59, 60, 61, 62, 63, 64, 65, 66] (by decide +kernel) (by decide +kernel)
set_option maxRecDepth 20000 in
theorem gX7_single_X7_pop : GoodIn wsX7_single (wsV RX7 174 RX7 yX7_pop wsX7_pop) := goodIn_app (goodIn_of _ (by decide +kernel)) ggX7_single_X7_pop
set_option maxRecDepth 20000 in
theorem ggX7_single_X7_setFlags : GoodIn wsX7_single wsX7_setFlags := goodIn_r _ [23, 24, 25, 26, 27, 28, 37, 38, 39, 40, 41, 42, 43, 44, 45, 46, 47, 48, 49, 50, 51, 52, 53, 54, 55, 56, 57, 58, 59, 60, 61, 62, 63, 64, 65, 66] (by decide +kernel) (by decide +kernel)
set_option maxRecDepth 20000 in
theorem gX7_single_X7_setFlags : GoodIn wsX7_single (wsV RX7 86 RX7 yX7_setFlags wsX7_setFlags) := goodIn_app (goodIn_of _ (by decide +kernel)) ggX7_single_X7_setFlags
set_option maxRecDepth 20000 in
theorem ggX7_single_X7_setPair : GoodIn wsX7_single wsX7_setPair := goodIn_r _ [32, 10, 4, 2, 37, 38, 39, 40, 41, 42, 43, 44, 45, 46, 47, 48, 49, 50, 51, 52, 53, 54, 55, 56, 57, 58, 59, 60, 61, 62, 63, 64, 65, 66] (by decide +kernel) (by decide +kernel)
set_option maxRecDepth 20000 in
theorem gX7_single_X7_setPair : GoodIn wsX7_single (wsV RX7 150 RX7 yX7_setPair wsX7_setPair) := goodIn_app (goodIn_of _ (by decide +kernel)) ggX7_single_X7_setPair
set_option maxRecDepth 20000 in
theorem ggX7_single_X7_hl : GoodIn wsX7_single wsX7_hl := goodIn_r _ [36, 2, 37, 38, 39, 40, 41, 42, 43, 44, 45, 46, 47, 48, 49, 50, 51, 52, 53, 54, 55, 56, 57, 58, 59, 60, 61, 62, 63, 64, 65, 66] (by decide +kernel) (by decide +kernel)
set_option maxRecDepth 20000 in
theorem gX7_single_X7_hl : GoodIn wsX7_single (wsV RX7 64 RX7 yX7_hl wsX7_hl) := goodIn_app (goodIn_of _ (by decide +kernel)) ggX7_single_X7_hl
theorem dX7_single_0 : decode cX7_single 0 = .ok (.aload_n 0, 1) := by decide +kernel
theorem dX7_single_1 : decode cX7_single 1 = .ok (.iload_n 1, 1) := by decide +kernel
theorem dX7_single_2 : decode cX7_single 2 = .ok (.iconst 5, 1) := by decide +kernel
theorem dX7_single_3 : decode cX7_single 3 = .ok (.if_icmp .eq 9, 3) := by decide +kernel
theorem dX7_single_6 : decode cX7_single 6 = .ok (.iload_n 1, 1) := by decide +kernel
theorem dX7_single_7 : decode cX7_single 7 = .ok (.bipush 7, 2) := by decide +kernel
theorem dX7_single_9 : decode cX7_single 9 = .ok (.if_icmp .ne 7, 3) := by decide +kernel
theorem dX7_single_12 : decode cX7_single 12 = .ok (.iconst 5, 1) := by decide +kernel
theorem dX7_single_13 : decode cX7_single 13 = .ok (.goto 5, 3) := by decide +kernel
theorem dX7_single_16 : decode cX7_single 16 = .ok (.bipush 10, 2) := by decide +kernel
theorem dX7_single_18 : decode cX7_single 18 = .ok (.putfield 141, 3) := by decide +kernel
theorem dX7_single_21 : decode cX7_single 21 = .ok (.iload_n 1, 1) := by decide +kernel
theorem dX7_single_22 : decode cX7_single 22 = .ok (.bipush 6, 2) := by decide +kernel
theorem dX7_single_24 : decode cX7_single 24 = .ok (.if_icmp .ne 27, 3) := by decide +kernel
theorem dX7_single_27 : decode cX7_single 27 = .ok (.aload_n 0, 1) := by decide +kernel
theorem dX7_single_28 : decode cX7_single 28 = .ok (.invokevirtual 174, 3) := by decide +kernel
theorem dX7_single_31 : decode cX7_single 31 = .ok (.istore_n 2, 1) := by decide +kernel
theorem dX7_single_32 : decode cX7_single 32 = .ok (.aload_n 0, 1) := by decide +kernel
theorem dX7_single_33 : decode cX7_single 33 = .ok (.getfield 16, 3) := by decide +kernel
theorem dX7_single_36 : decode cX7_single 36 = .ok (.bipush 7, 2) := by decide +kernel
theorem dX7_single_38 : decode cX7_single 38 = .ok (.iload_n 2, 1) := by decide +kernel
theorem dX7_single_39 : decode cX7_single 39 = .ok (.bipush 8, 2) := by decide +kernel
theorem dX7_single_41 : decode cX7_single 41 = .ok (.ishr, 1) := by decide +kernel
theorem dX7_single_42 : decode cX7_single 42 = .ok (.iastore, 1) := by decide +kernel
theorem dX7_single_43 : decode cX7_single 43 = .ok (.aload_n 0, 1) := by decide +kernel
theorem dX7_single_44 : decode cX7_single 44 = .ok (.iload_n 2, 1) := by decide +kernel
theorem dX7_single_45 : decode cX7_single 45 = .ok (.invokevirtual 86, 3) := by decide +kernel
theorem dX7_single_48 : decode cX7_single 48 = .ok (.goto 63, 3) := by decide +kernel
theorem dX7_single_51 : decode cX7_single 51 = .ok (.iload_n 1, 1) := by decide +kernel
theorem dX7_single_52 : decode cX7_single 52 = .ok (.iconst 2, 1) := by decide +kernel
theorem dX7_single_53 : decode cX7_single 53 = .ok (.irem, 1) := by decide +kernel
theorem dX7_single_54 : decode cX7_single 54 = .ok (.ifCond .ne 17, 3) := by decide +kernel
theorem dX7_single_57 : decode cX7_single 57 = .ok (.aload_n 0, 1) := by decide +kernel
theorem dX7_single_58 : decode cX7_single 58 = .ok (.iload_n 1, 1) := by decide +kernel
theorem dX7_single_59 : decode cX7_single 59 = .ok (.iconst 2, 1) := by decide +kernel
theorem dX7_single_60 : decode cX7_single 60 = .ok (.idiv, 1) := by decide +kernel
theorem dX7_single_61 : decode cX7_single 61 = .ok (.aload_n 0, 1) := by decide +kernel
theorem dX7_single_62 : decode cX7_single 62 = .ok (.invokevirtual 174, 3) := by decide +kernel
theorem dX7_single_65 : decode cX7_single 65 = .ok (.invokevirtual 150, 3) := by decide +kernel
theorem dX7_single_68 : decode cX7_single 68 = .ok (.goto 43, 3) := by decide +kernel
theorem dX7_single_71 : decode cX7_single 71 = .ok (.iload_n 1, 1) := by decide +kernel
theorem dX7_single_72 : decode cX7_single 72 = .ok (.iconst 4, 1) := by decide +kernel
theorem dX7_single_73 : decode cX7_single 73 = .ok (.if_icmp .ge 14, 3) := by decide +kernel
theorem dX7_single_76 : decode cX7_single 76 = .ok (.aload_n 0, 1) := by decide +kernel
theorem dX7_single_77 : decode cX7_single 77 = .ok (.aload_n 0, 1) := by decide +kernel
theorem dX7_single_78 : decode cX7_single 78 = .ok (.invokevirtual 174, 3) := by decide +kernel
theorem dX7_single_81 : decode cX7_single 81 = .ok (.putfield 47, 3) := by decide +kernel
theorem dX7_single_84 : decode cX7_single 84 = .ok (.goto 27, 3) := by decide +kernel
theorem dX7_single_87 : decode cX7_single 87 = .ok (.iload_n 1, 1) := by decide +kernel
theorem dX7_single_88 : decode cX7_single 88 = .ok (.iconst 5, 1) := by decide +kernel
theorem dX7_single_89 : decode cX7_single 89 = .ok (.if_icmp .ne 14, 3) := by decide +kernel
theorem dX7_single_92 : decode cX7_single 92 = .ok (.aload_n 0, 1) := by decide +kernel
theorem dX7_single_93 : decode cX7_single 93 = .ok (.aload_n 0, 1) := by decide +kernel
theorem dX7_single_94 : decode cX7_single 94 = .ok (.invokevirtual 64, 3) := by decide +kernel
theorem dX7_single_97 : decode cX7_single 97 = .ok (.putfield 47, 3) := by decide +kernel
theorem dX7_single_100 : decode cX7_single 100 = .ok (.goto 11, 3) := by decide +kernel
theorem dX7_single_103 : decode cX7_single 103 = .ok (.aload_n 0, 1) := by decide +kernel
theorem dX7_single_104 : decode cX7_single 104 = .ok (.aload_n 0, 1) := by decide +kernel
theorem dX7_single_105 : decode cX7_single 105 = .ok (.invokevirtual 64, 3) := by decide +kernel
theorem dX7_single_108 : decode cX7_single 108 = .ok (.putfield 55, 3) := by decide +kernel
theorem dX7_single_111 : decode cX7_single 111 = .ok (.return_, 1) := by decide +kernel
set_option maxRecDepth 20000 in
theorem ggX7_special_X7_nextWord : GoodIn wsX7_special wsX7_nextWord := goodIn_r _ [11, 12, 13, 14, 10, 15, 2, 16, 17, 18, 19, 20, 21, 68, 69, 70, 71, 72, 73, 74, 75, 76, 77, 78, 79, 80, 81, 82, 83, 84, 85, 86, 87, 88, 89, 90, 91, 92, 93, 94, 95, 96, 97] (by decide +kernel) (by decide +kernel)
set_option maxRecDepth 20000 in
theorem gX7_special_X7_nextWord : GoodIn wsX7_special (wsV RX7 153 RX7 yX7_nextWord wsX7_nextWord) := goodIn_app (goodIn_of _ (by decide +kernel)) ggX7_special_X7_nextWord
set_option maxRecDepth 20000 in
theorem ggX7_special_X7_next : GoodIn wsX7_special wsX7_next := goodIn_r _ [15, 2, 16, 17, 18, 19, 10, 20, 21, 68, 69, 70, 71, 72, 73, 74, 75, 76, 77, 78, 79, 80, 81, 82, 83, 84, 85, 86, 87, 88, 89, 90, 91, 92, 93, 94, 95, 96, 97] (by decide +kernel) (by decide +kernel)
set_option maxRecDepth 20000 in
theorem gX7_special_X7_next : GoodIn wsX7_special (wsV RX7 51 RX7 yX7_next wsX7_next) := goodIn_app (goodIn_of _ (by decide +kernel)) ggX7_special_X7_next
set_option maxRecDepth 20000 in
theorem ggX7_special_X7_out : GoodIn wsX7_special wsX7_out := goodIn_r _ [25, 26, 27, 28, 29, 30, 31, 32, 33, 34, 35, 36, 37, 68, 69, 70, 71, 72, 73, 74, 75, 76, 77, 78, 79, 80, 81, 82, 83, 84, 85, 86, 87, 88, 89, 90, 91, 92, 93, 94, 95, 96, 97] (by decide +kernel) (by decide +kernel)
set_option maxRecDepth 20000 in
theorem gX7_special_X7_out : GoodIn wsX7_special (wsV RX7 190 RX7 yX7_out wsX7_out) := goodIn_app (goodIn_of _ (by decide +kernel)) ggX7_special_X7_out
set_option maxRecDepth 20000 in
theorem ggX7_special_X7_in : GoodIn wsX7_special wsX7_in := goodIn_r _ [41, 42, 43, 32, 68, 69, 70, 71, 72, 73, 74, 75, 76, 77, 78, 79, 80, 81, 82, 83, 84, 85, 86, 87, 88, 89, 90, 91, 92, 93, 94, 95, 96, 97] (by decide +kernel) (by decide +kernel)
set_option maxRecDepth 20000 in
theorem gX7_special_X7_in : GoodIn wsX7_special (wsV RX7 193 RX7 yX7_in wsX7_in) := goodIn_app (goodIn_of _ (by decide +kernel)) ggX7_special_X7_in
set_option maxRecDepth 20000 in
theorem ggX7_special_X7_getWord : GoodIn wsX7_special wsX7_getWord := goodIn_r _ [47, 17, 18, 19, 10, 20, 21, 68, 69, 70, 71, 72, 73, 74, 75, 76, 77, 78, 79, 80, 81, 82, 83, 84, 85, 86, 87, 88, 89, 90, 91, 92, 93, 94, 95, 96, 97] (by decide +kernel) (by decide +kernel)
set_option maxRecDepth 20000 in
theorem gX7_special_X7_getWord : GoodIn wsX7_special (wsV RX7 61 RX7 yX7_getWord wsX7_getWord) := goodIn_app (goodIn_of _ (by decide +kernel)) ggX7_special_X7_getWord
set_option maxRecDepth 20000 in
theorem ggX7_special_X7_hl : GoodIn wsX7_special wsX7_hl := goodIn_r _ [51, 3, 68, 69, 70, 71, 72, 73, 74, 75, 76, 77, 78, 79, 80, 81, 82, 83, 84, 85, 86, 87, 88, 89, 90, 91, 92, 93, 94, 95, 96, 97] (by decide +kernel) (by decide +kernel)
set_option maxRecDepth 20000 in
theorem gX7_special_X7_hl : GoodIn wsX7_special (wsV RX7 64 RX7 yX7_hl wsX7_hl) := goodIn_app (goodIn_of _ (by decide +kernel)) ggX7_special_X7_hl
set_option maxRecDepth 20000 in
theorem ggX7_special_X7_setWord : GoodIn wsX7_special wsX7_setWord := goodIn_r _ [55, 56, 57, 58, 10, 59, 21, 68, 69, 70, 71, 72, 73, 74, 75, 76, 77, 78, 79, 80, 81, 82, 83, 84, 85, 86, 87, 88, 89, 90, 91, 92, 93, 94, 95, 96, 97] (by decide +kernel) (by decide +kernel)
set_option maxRecDepth 20000 in
theorem gX7_special_X7_setWord : GoodIn wsX7_special (wsV RX7 58 RX7 yX7_setWord wsX7_setWord) := goodIn_app (goodIn_of _ (by decide +kernel)) ggX7_special_X7_setWord
set_option maxRecDepth 20000 in
theorem ggX7_special_X7_setPair : GoodIn wsX7_special wsX7_setPair := goodIn_r _ [63, 16, 4, 3, 68, 69, 70, 71, 72, 73, 74, 75, 76, 77, 78, 79, 80, 81, 82, 83, 84, 85, 86, 87, 88, 89, 90, 91, 92, 93, 94, 95, 96, 97] (by decide +kernel) (by decide +kernel)
set_option maxRecDepth 20000 in
theorem gX7_special_X7_setPair : GoodIn wsX7_special (wsV RX7 150 RX7 yX7_setPair wsX7_setPair) := goodIn_app (goodIn_of _ (by decide +kernel)) ggX7_special_X7_setPair
set_option maxRecDepth 20000 in
theorem ggX7_special_X7_pair : GoodIn wsX7_special wsX7_pair := goodIn_r _ [67, 4, 3, 68, 69, 70, 71, 72, 73, 74, 75, 76, 77, 78, 79, 80, 81, 82, 83, 84, 85, 86, 87, 88, 89, 90, 91, 92, 93, 94, 95, 96, 97] (by decide +kernel) (by decide +kernel)
set_option maxRecDepth 20000 in
theorem gX7_special_X7_pair : GoodIn wsX7_special (wsV RX7 147 RX7 yX7_pair wsX7_pair) := goodIn_app (goodIn_of _ (by decide +kernel)) ggX7_special_X7_pair
theorem dX7_special_0 : decode cX7_special 0 = .ok (.aload_n 0, 1) := by decide +kernel
theorem dX7_special_1 : decode cX7_special 1 = .ok (.iload_n 1, 1) := by decide +kernel
theorem dX7_special_2 : decode cX7_special 2 = .ok (.iconst 4, 1) := by decide +kernel
theorem dX7_special_3 : decode cX7_special 3 = .ok (.if_icmp .ge 8, 3) := by decide +kernel
theorem dX7_special_6 : decode cX7_special 6 = .ok (.bipush 10, 2) := by decide +kernel
theorem dX7_special_8 : decode cX7_special 8 = .ok (.goto 14, 3) := by decide +kernel
theorem dX7_special_11 : decode cX7_special 11 = .ok (.iload_n 1, 1) := by decide +kernel
theorem dX7_special_12 : decode cX7_special 12 = .ok (.iconst 4, 1) := by decide +kernel
theorem dX7_special_13 : decode cX7_special 13 = .ok (.if_icmp .ne 8, 3) := by decide +kernel
theorem dX7_special_16 : decode cX7_special 16 = .ok (.bipush 18, 2) := by decide +kernel
theorem dX7_special_18 : decode cX7_special 18 = .ok (.goto 4, 3) := by decide +kernel
theorem dX7_special_21 : decode cX7_special 21 = .ok (.iconst 4, 1) := by decide +kernel
theorem dX7_special_22 : decode cX7_special 22 = .ok (.putfield 141, 3) := by decide +kernel
theorem dX7_special_25 : decode cX7_special 25 = .ok (.iload_n 1, 1) := by decide +kernel
theorem dX7_special_26 : decode cX7_special 26 = .ok (.iconst 2, 1) := by decide +kernel
theorem dX7_special_27 : decode cX7_special 27 = .ok (.if_icmp .ge 14, 3) := by decide +kernel
theorem dX7_special_30 : decode cX7_special 30 = .ok (.aload_n 0, 1) := by decide +kernel
theorem dX7_special_31 : decode cX7_special 31 = .ok (.aload_n 0, 1) := by decide +kernel
theorem dX7_special_32 : decode cX7_special 32 = .ok (.invokevirtual 153, 3) := by decide +kernel
theorem dX7_special_35 : decode cX7_special 35 = .ok (.putfield 47, 3) := by decide +kernel
theorem dX7_special_38 : decode cX7_special 38 = .ok (.goto 143, 3) := by decide +kernel
theorem dX7_special_41 : decode cX7_special 41 = .ok (.iload_n 1, 1) := by decide +kernel
theorem dX7_special_42 : decode cX7_special 42 = .ok (.iconst 2, 1) := by decide +kernel
theorem dX7_special_43 : decode cX7_special 43 = .ok (.if_icmp .ne 21, 3) := by decide +kernel
theorem dX7_special_46 : decode cX7_special 46 = .ok (.aload_n 0, 1) := by decide +kernel
theorem dX7_special_47 : decode cX7_special 47 = .ok (.aload_n 0, 1) := by decide +kernel
theorem dX7_special_48 : decode cX7_special 48 = .ok (.invokevirtual 51, 3) := by decide +kernel
theorem dX7_special_51 : decode cX7_special 51 = .ok (.aload_n 0, 1) := by decide +kernel
theorem dX7_special_52 : decode cX7_special 52 = .ok (.getfield 16, 3) := by decide +kernel
theorem dX7_special_55 : decode cX7_special 55 = .ok (.bipush 7, 2) := by decide +kernel
theorem dX7_special_57 : decode cX7_special 57 = .ok (.iaload, 1) := by decide +kernel
theorem dX7_special_58 : decode cX7_special 58 = .ok (.invokevirtual 190, 3) := by decide +kernel
theorem dX7_special_61 : decode cX7_special 61 = .ok (.goto 120, 3) := by decide +kernel
theorem dX7_special_64 : decode cX7_special 64 = .ok (.iload_n 1, 1) := by decide +kernel
theorem dX7_special_65 : decode cX7_special 65 = .ok (.iconst 3, 1) := by decide +kernel
theorem dX7_special_66 : decode cX7_special 66 = .ok (.if_icmp .ne 21, 3) := by decide +kernel
theorem dX7_special_69 : decode cX7_special 69 = .ok (.aload_n 0, 1) := by decide +kernel
theorem dX7_special_70 : decode cX7_special 70 = .ok (.getfield 16, 3) := by decide +kernel
theorem dX7_special_73 : decode cX7_special 73 = .ok (.bipush 7, 2) := by decide +kernel
theorem dX7_special_75 : decode cX7_special 75 = .ok (.aload_n 0, 1) := by decide +kernel
theorem dX7_special_76 : decode cX7_special 76 = .ok (.aload_n 0, 1) := by decide +kernel
theorem dX7_special_77 : decode cX7_special 77 = .ok (.invokevirtual 51, 3) := by decide +kernel
theorem dX7_special_80 : decode cX7_special 80 = .ok (.invokevirtual 193, 3) := by decide +kernel
theorem dX7_special_83 : decode cX7_special 83 = .ok (.iastore, 1) := by decide +kernel
theorem dX7_special_84 : decode cX7_special 84 = .ok (.goto 97, 3) := by decide +kernel
theorem dX7_special_87 : decode cX7_special 87 = .ok (.iload_n 1, 1) := by decide +kernel
theorem dX7_special_88 : decode cX7_special 88 = .ok (.iconst 4, 1) := by decide +kernel
theorem dX7_special_89 : decode cX7_special 89 = .ok (.if_icmp .ne 33, 3) := by decide +kernel
theorem dX7_special_92 : decode cX7_special 92 = .ok (.aload_n 0, 1) := by decide +kernel
theorem dX7_special_93 : decode cX7_special 93 = .ok (.aload_n 0, 1) := by decide +kernel
theorem dX7_special_94 : decode cX7_special 94 = .ok (.getfield 55, 3) := by decide +kernel
theorem dX7_special_97 : decode cX7_special 97 = .ok (.invokevirtual 61, 3) := by decide +kernel
theorem dX7_special_100 : decode cX7_special 100 = .ok (.istore_n 2, 1) := by decide +kernel
theorem dX7_special_101 : decode cX7_special 101 = .ok (.aload_n 0, 1) := by decide +kernel
theorem dX7_special_102 : decode cX7_special 102 = .ok (.aload_n 0, 1) := by decide +kernel
theorem dX7_special_103 : decode cX7_special 103 = .ok (.getfield 55, 3) := by decide +kernel
theorem dX7_special_106 : decode cX7_special 106 = .ok (.aload_n 0, 1) := by decide +kernel
theorem dX7_special_107 : decode cX7_special 107 = .ok (.invokevirtual 64, 3) := by decide +kernel
theorem dX7_special_110 : decode cX7_special 110 = .ok (.invokevirtual 58, 3) := by decide +kernel
theorem dX7_special_113 : decode cX7_special 113 = .ok (.aload_n 0, 1) := by decide +kernel
theorem dX7_special_114 : decode cX7_special 114 = .ok (.iconst 2, 1) := by decide +kernel
theorem dX7_special_115 : decode cX7_special 115 = .ok (.iload_n 2, 1) := by decide +kernel
theorem dX7_special_116 : decode cX7_special 116 = .ok (.invokevirtual 150, 3) := by decide +kernel
theorem dX7_special_119 : decode cX7_special 119 = .ok (.goto 62, 3) := by decide +kernel
theorem dX7_special_122 : decode cX7_special 122 = .ok (.iload_n 1, 1) := by decide +kernel
theorem dX7_special_123 : decode cX7_special 123 = .ok (.iconst 5, 1) := by decide +kernel
theorem dX7_special_124 : decode cX7_special 124 = .ok (.if_icmp .ne 27, 3) := by decide +kernel
theorem dX7_special_127 : decode cX7_special 127 = .ok (.aload_n 0, 1) := by decide +kernel
theorem dX7_special_128 : decode cX7_special 128 = .ok (.invokevirtual 64, 3) := by decide +kernel
theorem dX7_special_131 : decode cX7_special 131 = .ok (.istore_n 2, 1) := by decide +kernel
theorem dX7_special_132 : decode cX7_special 132 = .ok (.aload_n 0, 1) := by decide +kernel
theorem dX7_special_133 : decode cX7_special 133 = .ok (.iconst 2, 1) := by decide +kernel
theorem dX7_special_134 : decode cX7_special 134 = .ok (.aload_n 0, 1) := by decide +kernel
theorem dX7_special_135 : decode cX7_special 135 = .ok (.iconst 1, 1) := by decide +kernel
theorem dX7_special_136 : decode cX7_special 136 = .ok (.invokevirtual 147, 3) := by decide +kernel
theorem dX7_special_139 : decode cX7_special 139 = .ok (.invokevirtual 150, 3) := by decide +kernel
theorem dX7_special_142 : decode cX7_special 142 = .ok (.aload_n 0, 1) := by decide +kernel
theorem dX7_special_143 : decode cX7_special 143 = .ok (.iconst 1, 1) := by decide +kernel
theorem dX7_special_144 : decode cX7_special 144 = .ok (.iload_n 2, 1) := by decide +kernel
theorem dX7_special_145 : decode cX7_special 145 = .ok (.invokevirtual 150, 3) := by decide +kernel
theorem dX7_special_148 : decode cX7_special 148 = .ok (.goto 33, 3) := by decide +kernel
theorem dX7_special_151 : decode cX7_special 151 = .ok (.aload_n 0, 1) := by decide +kernel
theorem dX7_special_152 : decode cX7_special 152 = .ok (.iload_n 1, 1) := by decide +kernel
theorem dX7_special_153 : decode cX7_special 153 = .ok (.bipush 7, 2) := by decide +kernel
theorem dX7_special_155 : decode cX7_special 155 = .ok (.if_icmp .ne 7, 3) := by decide +kernel
theorem dX7_special_158 : decode cX7_special 158 = .ok (.iconst 1, 1) := by decide +kernel
theorem dX7_special_159 : decode cX7_special 159 = .ok (.goto 4, 3) := by decide +kernel
theorem dX7_special_162 : decode cX7_special 162 = .ok (.iconst 0, 1) := by decide +kernel
theorem dX7_special_163 : decode cX7_special 163 = .ok (.putfield 196, 3) := by decide +kernel
theorem dX7_special_166 : decode cX7_special 166 = .ok (.aload_n 0, 1) := by decide +kernel
theorem dX7_special_167 : decode cX7_special 167 = .ok (.iload_n 1, 1) := by decide +kernel
theorem dX7_special_168 : decode cX7_special 168 = .ok (.bipush 7, 2) := by decide +kernel
theorem dX7_special_170 : decode cX7_special 170 = .ok (.if_icmp .ne 7, 3) := by decide +kernel
theorem dX7_special_173 : decode cX7_special 173 = .ok (.iconst 1, 1) := by decide +kernel
theorem dX7_special_174 : decode cX7_special 174 = .ok (.goto 4, 3) := by decide +kernel
theorem dX7_special_177 : decode cX7_special 177 = .ok (.iconst 0, 1) := by decide +kernel
theorem dX7_special_178 : decode cX7_special 178 = .ok (.putfield 199, 3) := by decide +kernel
theorem dX7_special_181 : decode cX7_special 181 = .ok (.return_, 1) := by decide +kernel
set_option maxRecDepth 20000 in
theorem ggX7_instruction_X7_next : GoodIn wsX7_instruction wsX7_next := goodIn_r _ [8, 9, 10, 11, 12, 13, 7, 14, 15, 150, 151, 152, 153, 154, 155, 156, 157, 158, 159, 160, 161, 162, 163, 164, 165, 166, 167, 168, 169, 170, 171, 172, 173, 174, 175, 176, 177, 178, 179] (by decide +kernel) (by decide +kernel)
set_option maxRecDepth 20000 in
theorem gX7_instruction_X7_next : GoodIn wsX7_instruction (wsV RX7 51 RX7 yX7_next wsX7_next) := goodIn_app (goodIn_of _ (by decide +kernel)) ggX7_instruction_X7_next
set_option maxRecDepth 20000 in
theorem ggX7_instruction_X7_zero : GoodIn wsX7_instruction wsX7_zero := goodIn_r _ [19, 2, 10, 20, 21, 22, 23, 24, 7, 25, 26, 27, 28, 29, 30, 31, 32, 33, 34, 35, 36, 37, 38, 39, 4, 5, 6, 8, 9, 11, 12, 13, 14, 15, 40, 41, 42, 43, 44, 45, 46, 47, 48, 49, 50, 51, 52, 53, 54, 55, 56, 57, 58, 59, 60, 61, 62, 63, 64, 65, 66, 67, 68, 69, 70, 71, 72, 73, 74, 75, 76, 77, 78, 150, 151, 152, 153, 154, 155, 156, 157, 158, 159, 160, 161, 162, 163, 164, 165, 166, 167, 168, 169, 170, 171, 172, 173, 174, 175, 176, 177, 178, 179] (by decide +kernel) (by decide +kernel)
set_option maxRecDepth 20000 in
theorem gX7_instruction_X7_zero : GoodIn wsX7_instruction (wsV RX7 202 RX7 yX7_zero wsX7_zero) := goodIn_app (goodIn_of _ (by decide +kernel)) ggX7_instruction_X7_zero
set_option maxRecDepth 20000 in
theorem ggX7_instruction_X7_reg : GoodIn wsX7_instruction wsX7_reg := goodIn_r _ [59, 26, 22, 23, 24, 7, 25, 11, 12, 13, 14, 15, 150, 151, 152, 153, 154, 155, 156, 157, 158, 159, 160, 161, 162, 163, 164, 165, 166, 167, 168, 169, 170, 171, 172, 173, 174, 175, 176, 177, 178, 179] (by decide +kernel) (by decide +kernel)
set_option maxRecDepth 20000 in
theorem gX7_instruction_X7_reg : GoodIn wsX7_instruction (wsV RX7 159 RX7 yX7_reg wsX7_reg) := goodIn_app (goodIn_of _ (by decide +kernel)) ggX7_instruction_X7_reg
set_option maxRecDepth 20000 in
theorem ggX7_instruction_X7_setReg : GoodIn wsX7_instruction wsX7_setReg := goodIn_r _ [63, 26, 22, 23, 24, 7, 25, 48, 49, 50, 51, 15, 150, 151, 152, 153, 154, 155, 156, 157, 158, 159, 160, 161, 162, 163, 164, 165, 166, 167, 168, 169, 170, 171, 172, 173, 174, 175, 176, 177, 178, 179] (by decide +kernel) (by decide +kernel)
set_option maxRecDepth 20000 in
theorem gX7_instruction_X7_setReg : GoodIn wsX7_instruction (wsV RX7 162 RX7 yX7_setReg wsX7_setReg) := goodIn_app (goodIn_of _ (by decide +kernel)) ggX7_instruction_X7_setReg
set_option maxRecDepth 20000 in
theorem ggX7_instruction_X7_reckon : GoodIn wsX7_instruction wsX7_reckon := goodIn_r _ [82, 26, 20, 21, 83, 84, 85, 7, 86, 64, 65, 66, 67, 68, 69, 70, 87, 88, 89, 90, 150, 151, 152, 153, 154, 155, 156, 157, 158, 159, 160, 161, 162, 163, 164, 165, 166, 167, 168, 169, 170, 171, 172, 173, 174, 175, 176, 177, 178, 179] (by decide +kernel) (by decide +kernel)
set_option maxRecDepth 20000 in
theorem gX7_instruction_X7_reckon : GoodIn wsX7_instruction (wsV RX7 187 RX7 yX7_reckon wsX7_reckon) := goodIn_app (goodIn_of _ (by decide +kernel)) ggX7_instruction_X7_reckon
set_option maxRecDepth 20000 in
theorem ggX7_instruction_X7_three : GoodIn wsX7_instruction wsX7_three := goodIn_r _ [94, 2, 9, 26, 95, 96, 97, 7, 98, 69, 20, 70, 68, 99, 100, 101, 102, 31, 10, 52, 53, 54, 55, 11, 12, 13, 14, 15, 103, 104, 105, 106, 107, 108, 109, 110, 21, 32, 33, 34, 35, 22, 23, 24, 25, 111, 112, 113, 114, 36, 37, 38, 39, 4, 5, 6, 8, 115, 116, 117, 118, 44, 45, 46, 47, 48, 49, 50, 51, 119, 120, 121, 122, 123, 1, 124, 125, 126, 127, 128, 129, 130, 131, 132, 133, 134, 135, 136, 137, 138, 139, 140, 141, 142, 143, 144, 145, 27, 28, 29, 30, 146, 147, 148, 149, 79, 80, 81, 82, 83, 84, 85, 86, 64, 65, 66, 67, 87, 88, 89, 90, 150, 151, 152, 153, 154, 155, 156, 157, 158, 159, 160, 161, 162, 163, 164, 165, 166, 167, 168, 169, 170, 171, 172, 173, 174, 175, 176, 177, 178, 179] (by decide +kernel) (by decide +kernel)
set_option maxRecDepth 20000 in
theorem gX7_instruction_X7_three : GoodIn wsX7_instruction (wsV RX7 207 RX7 yX7_three wsX7_three) := goodIn_app (goodIn_of _ (by decide +kernel)) ggX7_instruction_X7_three
theorem dX7_instruction_0 : decode cX7_instruction 0 = .ok (.aload_n 0, 1) := by decide +kernel
theorem dX7_instruction_1 : decode cX7_instruction 1 = .ok (.invokevirtual 51, 3) := by decide +kernel
theorem dX7_instruction_4 : decode cX7_instruction 4 = .ok (.istore_n 1, 1) := by decide +kernel
theorem dX7_instruction_5 : decode cX7_instruction 5 = .ok (.iload_n 1, 1) := by decide +kernel
theorem dX7_instruction_6 : decode cX7_instruction 6 = .ok (.iconst 3, 1) := by decide +kernel
theorem dX7_instruction_7 : decode cX7_instruction 7 = .ok (.ishr, 1) := by decide +kernel
theorem dX7_instruction_8 : decode cX7_instruction 8 = .ok (.bipush 7, 2) := by decide +kernel
theorem dX7_instruction_10 : decode cX7_instruction 10 = .ok (.iand, 1) := by decide +kernel
theorem dX7_instruction_11 : decode cX7_instruction 11 = .ok (.istore_n 2, 1) := by decide +kernel
theorem dX7_instruction_12 : decode cX7_instruction 12 = .ok (.iload_n 1, 1) := by decide +kernel
theorem dX7_instruction_13 : decode cX7_instruction 13 = .ok (.bipush 7, 2) := by decide +kernel
theorem dX7_instruction_15 : decode cX7_instruction 15 = .ok (.iand, 1) := by decide +kernel
theorem dX7_instruction_16 : decode cX7_instruction 16 = .ok (.istore_n 3, 1) := by decide +kernel
theorem dX7_instruction_17 : decode cX7_instruction 17 = .ok (.aload_n 0, 1) := by decide +kernel
theorem dX7_instruction_18 : decode cX7_instruction 18 = .ok (.iconst 0, 1) := by decide +kernel
theorem dX7_instruction_19 : decode cX7_instruction 19 = .ok (.putfield 199, 3) := by decide +kernel
theorem dX7_instruction_22 : decode cX7_instruction 22 = .ok (.iload_n 1, 1) := by decide +kernel
theorem dX7_instruction_23 : decode cX7_instruction 23 = .ok (.bipush 64, 2) := by decide +kernel
theorem dX7_instruction_25 : decode cX7_instruction 25 = .ok (.if_icmp .ge 12, 3) := by decide +kernel
theorem dX7_instruction_28 : decode cX7_instruction 28 = .ok (.aload_n 0, 1) := by decide +kernel
theorem dX7_instruction_29 : decode cX7_instruction 29 = .ok (.iload_n 2, 1) := by decide +kernel
theorem dX7_instruction_30 : decode cX7_instruction 30 = .ok (.iload_n 3, 1) := by decide +kernel
theorem dX7_instruction_31 : decode cX7_instruction 31 = .ok (.invokevirtual 202, 3) := by decide +kernel
theorem dX7_instruction_34 : decode cX7_instruction 34 = .ok (.goto 107, 3) := by decide +kernel
theorem dX7_instruction_37 : decode cX7_instruction 37 = .ok (.iload_n 1, 1) := by decide +kernel
theorem dX7_instruction_38 : decode cX7_instruction 38 = .ok (.bipush 118, 2) := by decide +kernel
theorem dX7_instruction_40 : decode cX7_instruction 40 = .ok (.if_icmp .ne 17, 3) := by decide +kernel
theorem dX7_instruction_43 : decode cX7_instruction 43 = .ok (.aload_n 0, 1) := by decide +kernel
theorem dX7_instruction_44 : decode cX7_instruction 44 = .ok (.bipush 7, 2) := by decide +kernel
theorem dX7_instruction_46 : decode cX7_instruction 46 = .ok (.putfield 141, 3) := by decide +kernel
theorem dX7_instruction_49 : decode cX7_instruction 49 = .ok (.aload_n 0, 1) := by decide +kernel
theorem dX7_instruction_50 : decode cX7_instruction 50 = .ok (.iconst 1, 1) := by decide +kernel
theorem dX7_instruction_51 : decode cX7_instruction 51 = .ok (.putfield 204, 3) := by decide +kernel
theorem dX7_instruction_54 : decode cX7_instruction 54 = .ok (.goto 87, 3) := by decide +kernel
theorem dX7_instruction_57 : decode cX7_instruction 57 = .ok (.iload_n 1, 1) := by decide +kernel
theorem dX7_instruction_58 : decode cX7_instruction 58 = .ok (.sipush 128, 3) := by decide +kernel
theorem dX7_instruction_61 : decode cX7_instruction 61 = .ok (.if_icmp .ge 38, 3) := by decide +kernel
theorem dX7_instruction_64 : decode cX7_instruction 64 = .ok (.aload_n 0, 1) := by decide +kernel
theorem dX7_instruction_65 : decode cX7_instruction 65 = .ok (.iload_n 2, 1) := by decide +kernel
theorem dX7_instruction_66 : decode cX7_instruction 66 = .ok (.bipush 6, 2) := by decide +kernel
theorem dX7_instruction_68 : decode cX7_instruction 68 = .ok (.if_icmp .eq 9, 3) := by decide +kernel
theorem dX7_instruction_71 : decode cX7_instruction 71 = .ok (.iload_n 3, 1) := by decide +kernel
theorem dX7_instruction_72 : decode cX7_instruction 72 = .ok (.bipush 6, 2) := by decide +kernel
