theorem dX4_setPair_31 : decode cX4_setPair 31 = .ok (.iastore, 1) := by decide +kernel
theorem dX4_setPair_32 : decode cX4_setPair 32 = .ok (.aload_n 0, 1) := by decide +kernel
theorem dX4_setPair_33 : decode cX4_setPair 33 = .ok (.getfield 27, 3) := by decide +kernel
theorem dX4_setPair_36 : decode cX4_setPair 36 = .ok (.iconst 2, 1) := by decide +kernel
theorem dX4_setPair_37 : decode cX4_setPair 37 = .ok (.iload_n 1, 1) := by decide +kernel
theorem dX4_setPair_38 : decode cX4_setPair 38 = .ok (.imul, 1) := by decide +kernel
theorem dX4_setPair_39 : decode cX4_setPair 39 = .ok (.iconst 1, 1) := by decide +kernel
theorem dX4_setPair_40 : decode cX4_setPair 40 = .ok (.iadd, 1) := by decide +kernel
theorem dX4_setPair_41 : decode cX4_setPair 41 = .ok (.iload_n 2, 1) := by decide +kernel
theorem dX4_setPair_42 : decode cX4_setPair 42 = .ok (.sipush 255, 3) := by decide +kernel
theorem dX4_setPair_45 : decode cX4_setPair 45 = .ok (.iand, 1) := by decide +kernel
theorem dX4_setPair_46 : decode cX4_setPair 46 = .ok (.iastore, 1) := by decide +kernel
theorem dX4_setPair_47 : decode cX4_setPair 47 = .ok (.return_, 1) := by decide +kernel
set_option maxRecDepth 20000 in
theorem ggX4_push_X5_setWord : GoodIn wsX4_push wsX5_setWord := goodIn_r _ [8, 9, 23] (by decide +kernel) (by decide +kernel)
set_option maxRecDepth 20000 in
theorem gX4_push_X5_setWord : GoodIn wsX4_push (wsV RX4 154 RX5 yX5_setWord wsX5_setWord) := goodIn_app (goodIn_of _ (by decide +kernel)) ggX4_push_X5_setWord
theorem dX4_push_0 : decode cX4_push 0 = .ok (.aload_n 0, 1) := by decide +kernel
theorem dX4_push_1 : decode cX4_push 1 = .ok (.aload_n 0, 1) := by decide +kernel
theorem dX4_push_2 : decode cX4_push 2 = .ok (.getfield 54, 3) := by decide +kernel
theorem dX4_push_5 : decode cX4_push 5 = .ok (.iconst 2, 1) := by decide +kernel
theorem dX4_push_6 : decode cX4_push 6 = .ok (.isub, 1) := by decide +kernel
theorem dX4_push_7 : decode cX4_push 7 = .ok (.ldc 61, 2) := by decide +kernel
theorem dX4_push_9 : decode cX4_push 9 = .ok (.iand, 1) := by decide +kernel
theorem dX4_push_10 : decode cX4_push 10 = .ok (.putfield 54, 3) := by decide +kernel
theorem dX4_push_13 : decode cX4_push 13 = .ok (.aload_n 0, 1) := by decide +kernel
theorem dX4_push_14 : decode cX4_push 14 = .ok (.getfield 35, 3) := by decide +kernel
theorem dX4_push_17 : decode cX4_push 17 = .ok (.aload_n 0, 1) := by decide +kernel
theorem dX4_push_18 : decode cX4_push 18 = .ok (.getfield 54, 3) := by decide +kernel
theorem dX4_push_21 : decode cX4_push 21 = .ok (.iload_n 1, 1) := by decide +kernel
theorem dX4_push_22 : decode cX4_push 22 = .ok (.invokevirtual 154, 3) := by decide +kernel
theorem dX4_push_25 : decode cX4_push 25 = .ok (.return_, 1) := by decide +kernel
set_option maxRecDepth 20000 in
theorem ggX4_pop_X5_wordAt : GoodIn wsX4_pop wsX5_wordAt := goodIn_r _ [8, 9, 23] (by decide +kernel) (by decide +kernel)
set_option maxRecDepth 20000 in
theorem gX4_pop_X5_wordAt : GoodIn wsX4_pop (wsV RX4 157 RX5 yX5_wordAt wsX5_wordAt) := goodIn_app (goodIn_of _ (by decide +kernel)) ggX4_pop_X5_wordAt
theorem dX4_pop_0 : decode cX4_pop 0 = .ok (.aload_n 0, 1) := by decide +kernel
theorem dX4_pop_1 : decode cX4_pop 1 = .ok (.getfield 35, 3) := by decide +kernel
theorem dX4_pop_4 : decode cX4_pop 4 = .ok (.aload_n 0, 1) := by decide +kernel
theorem dX4_pop_5 : decode cX4_pop 5 = .ok (.getfield 54, 3) := by decide +kernel
theorem dX4_pop_8 : decode cX4_pop 8 = .ok (.invokevirtual 157, 3) := by decide +kernel
theorem dX4_pop_11 : decode cX4_pop 11 = .ok (.istore_n 1, 1) := by decide +kernel
theorem dX4_pop_12 : decode cX4_pop 12 = .ok (.aload_n 0, 1) := by decide +kernel
theorem dX4_pop_13 : decode cX4_pop 13 = .ok (.aload_n 0, 1) := by decide +kernel
theorem dX4_pop_14 : decode cX4_pop 14 = .ok (.getfield 54, 3) := by decide +kernel
theorem dX4_pop_17 : decode cX4_pop 17 = .ok (.iconst 2, 1) := by decide +kernel
theorem dX4_pop_18 : decode cX4_pop 18 = .ok (.iadd, 1) := by decide +kernel
theorem dX4_pop_19 : decode cX4_pop 19 = .ok (.ldc 61, 2) := by decide +kernel
theorem dX4_pop_21 : decode cX4_pop 21 = .ok (.iand, 1) := by decide +kernel
theorem dX4_pop_22 : decode cX4_pop 22 = .ok (.putfield 54, 3) := by decide +kernel
theorem dX4_pop_25 : decode cX4_pop 25 = .ok (.iload_n 1, 1) := by decide +kernel
theorem dX4_pop_26 : decode cX4_pop 26 = .ok (.ireturn, 1) := by decide +kernel
set_option maxRecDepth 20000 in
theorem ggX4_nextByte_X5_byteAt : GoodIn wsX4_nextByte wsX5_byteAt := goodIn_r _ [8, 9, 23] (by decide +kernel) (by decide +kernel)
set_option maxRecDepth 20000 in
theorem gX4_nextByte_X5_byteAt : GoodIn wsX4_nextByte (wsV RX4 151 RX5 yX5_byteAt wsX5_byteAt) := goodIn_app (goodIn_of _ (by decide +kernel)) ggX4_nextByte_X5_byteAt
theorem dX4_nextByte_0 : decode cX4_nextByte 0 = .ok (.aload_n 0, 1) := by decide +kernel
theorem dX4_nextByte_1 : decode cX4_nextByte 1 = .ok (.getfield 35, 3) := by decide +kernel
theorem dX4_nextByte_4 : decode cX4_nextByte 4 = .ok (.aload_n 0, 1) := by decide +kernel
theorem dX4_nextByte_5 : decode cX4_nextByte 5 = .ok (.getfield 51, 3) := by decide +kernel
theorem dX4_nextByte_8 : decode cX4_nextByte 8 = .ok (.invokevirtual 151, 3) := by decide +kernel
theorem dX4_nextByte_11 : decode cX4_nextByte 11 = .ok (.istore_n 1, 1) := by decide +kernel
theorem dX4_nextByte_12 : decode cX4_nextByte 12 = .ok (.aload_n 0, 1) := by decide +kernel
theorem dX4_nextByte_13 : decode cX4_nextByte 13 = .ok (.aload_n 0, 1) := by decide +kernel
theorem dX4_nextByte_14 : decode cX4_nextByte 14 = .ok (.getfield 51, 3) := by decide +kernel
theorem dX4_nextByte_17 : decode cX4_nextByte 17 = .ok (.iconst 1, 1) := by decide +kernel
theorem dX4_nextByte_18 : decode cX4_nextByte 18 = .ok (.iadd, 1) := by decide +kernel
theorem dX4_nextByte_19 : decode cX4_nextByte 19 = .ok (.ldc 61, 2) := by decide +kernel
theorem dX4_nextByte_21 : decode cX4_nextByte 21 = .ok (.iand, 1) := by decide +kernel
theorem dX4_nextByte_22 : decode cX4_nextByte 22 = .ok (.putfield 51, 3) := by decide +kernel
theorem dX4_nextByte_25 : decode cX4_nextByte 25 = .ok (.iload_n 1, 1) := by decide +kernel
theorem dX4_nextByte_26 : decode cX4_nextByte 26 = .ok (.ireturn, 1) := by decide +kernel
set_option maxRecDepth 20000 in
theorem ggX4_nextWord_X5_wordAt : GoodIn wsX4_nextWord wsX5_wordAt := goodIn_r _ [8, 9, 23] (by decide +kernel) (by decide +kernel)
set_option maxRecDepth 20000 in
theorem gX4_nextWord_X5_wordAt : GoodIn wsX4_nextWord (wsV RX4 157 RX5 yX5_wordAt wsX5_wordAt) := goodIn_app (goodIn_of _ (by decide +kernel)) ggX4_nextWord_X5_wordAt
theorem dX4_nextWord_0 : decode cX4_nextWord 0 = .ok (.aload_n 0, 1) := by decide +kernel
theorem dX4_nextWord_1 : decode cX4_nextWord 1 = .ok (.getfield 35, 3) := by decide +kernel
theorem dX4_nextWord_4 : decode cX4_nextWord 4 = .ok (.aload_n 0, 1) := by decide +kernel
theorem dX4_nextWord_5 : decode cX4_nextWord 5 = .ok (.getfield 51, 3) := by decide +kernel
theorem dX4_nextWord_8 : decode cX4_nextWord 8 = .ok (.invokevirtual 157, 3) := by decide +kernel
theorem dX4_nextWord_11 : decode cX4_nextWord 11 = .ok (.istore_n 1, 1) := by decide +kernel
theorem dX4_nextWord_12 : decode cX4_nextWord 12 = .ok (.aload_n 0, 1) := by decide +kernel
theorem dX4_nextWord_13 : decode cX4_nextWord 13 = .ok (.aload_n 0, 1) := by decide +kernel
theorem dX4_nextWord_14 : decode cX4_nextWord 14 = .ok (.getfield 51, 3) := by decide +kernel
theorem dX4_nextWord_17 : decode cX4_nextWord 17 = .ok (.iconst 2, 1) := by decide +kernel
theorem dX4_nextWord_18 : decode cX4_nextWord 18 = .ok (.iadd, 1) := by decide +kernel
theorem dX4_nextWord_19 : decode cX4_nextWord 19 = .ok (.ldc 61, 2) := by decide +kernel
theorem dX4_nextWord_21 : decode cX4_nextWord 21 = .ok (.iand, 1) := by decide +kernel
theorem dX4_nextWord_22 : decode cX4_nextWord 22 = .ok (.putfield 51, 3) := by decide +kernel
theorem dX4_nextWord_25 : decode cX4_nextWord 25 = .ok (.iload_n 1, 1) := by decide +kernel
theorem dX4_nextWord_26 : decode cX4_nextWord 26 = .ok (.ireturn, 1) := by decide +kernel
theorem dX5_init_0 : decode cX5_init 0 = .ok (.aload_n 0, 1) := by decide +kernel
theorem dX5_init_1 : decode cX5_init 1 = .ok (.invokespecial 5, 3) := by decide +kernel
theorem dX5_init_4 : decode cX5_init 4 = .ok (.aload_n 0, 1) := by decide +kernel
theorem dX5_init_5 : decode cX5_init 5 = .ok (.sipush 4096, 3) := by decide +kernel
theorem dX5_init_8 : decode cX5_init 8 = .ok (.newarray .int, 2) := by decide +kernel
theorem dX5_init_10 : decode cX5_init 10 = .ok (.putfield 11, 3) := by decide +kernel
theorem dX5_init_13 : decode cX5_init 13 = .ok (.return_, 1) := by decide +kernel
theorem dX5_byteAt_0 : decode cX5_byteAt 0 = .ok (.aload_n 0, 1) := by decide +kernel
theorem dX5_byteAt_1 : decode cX5_byteAt 1 = .ok (.getfield 11, 3) := by decide +kernel
theorem dX5_byteAt_4 : decode cX5_byteAt 4 = .ok (.iload_n 1, 1) := by decide +kernel
theorem dX5_byteAt_5 : decode cX5_byteAt 5 = .ok (.sipush 4095, 3) := by decide +kernel
theorem dX5_byteAt_8 : decode cX5_byteAt 8 = .ok (.iand, 1) := by decide +kernel
theorem dX5_byteAt_9 : decode cX5_byteAt 9 = .ok (.iaload, 1) := by decide +kernel
theorem dX5_byteAt_10 : decode cX5_byteAt 10 = .ok (.ireturn, 1) := by decide +kernel
theorem dX5_setByte_0 : decode cX5_setByte 0 = .ok (.aload_n 0, 1) := by decide +kernel
theorem dX5_setByte_1 : decode cX5_setByte 1 = .ok (.getfield 11, 3) := by decide +kernel
theorem dX5_setByte_4 : decode cX5_setByte 4 = .ok (.iload_n 1, 1) := by decide +kernel
theorem dX5_setByte_5 : decode cX5_setByte 5 = .ok (.sipush 4095, 3) := by decide +kernel
theorem dX5_setByte_8 : decode cX5_setByte 8 = .ok (.iand, 1) := by decide +kernel
theorem dX5_setByte_9 : decode cX5_setByte 9 = .ok (.iload_n 2, 1) := by decide +kernel
theorem dX5_setByte_10 : decode cX5_setByte 10 = .ok (.sipush 255, 3) := by decide +kernel
theorem dX5_setByte_13 : decode cX5_setByte 13 = .ok (.iand, 1) := by decide +kernel
theorem dX5_setByte_14 : decode cX5_setByte 14 = .ok (.iastore, 1) := by decide +kernel
theorem dX5_setByte_15 : decode cX5_setByte 15 = .ok (.return_, 1) := by decide +kernel
set_option maxRecDepth 20000 in
theorem ggX5_exchange_X5_byteAt : GoodIn wsX5_exchange wsX5_byteAt := goodIn_r _ [5, 6, 11] (by decide +kernel) (by decide +kernel)
set_option maxRecDepth 20000 in
theorem gX5_exchange_X5_byteAt : GoodIn wsX5_exchange (wsV RX5 15 RX5 yX5_byteAt wsX5_byteAt) := goodIn_app (goodIn_of _ (by decide +kernel)) ggX5_exchange_X5_byteAt
set_option maxRecDepth 20000 in
theorem ggX5_exchange_X5_setByte : GoodIn wsX5_exchange wsX5_setByte := goodIn_r _ [10, 6, 11] (by decide +kernel) (by decide +kernel)
set_option maxRecDepth 20000 in
theorem gX5_exchange_X5_setByte : GoodIn wsX5_exchange (wsV RX5 19 RX5 yX5_setByte wsX5_setByte) := goodIn_app (goodIn_of _ (by decide +kernel)) ggX5_exchange_X5_setByte
theorem dX5_exchange_0 : decode cX5_exchange 0 = .ok (.aload_n 0, 1) := by decide +kernel
theorem dX5_exchange_1 : decode cX5_exchange 1 = .ok (.iload_n 1, 1) := by decide +kernel
theorem dX5_exchange_2 : decode cX5_exchange 2 = .ok (.invokevirtual 15, 3) := by decide +kernel
theorem dX5_exchange_5 : decode cX5_exchange 5 = .ok (.istore_n 3, 1) := by decide +kernel
theorem dX5_exchange_6 : decode cX5_exchange 6 = .ok (.aload_n 0, 1) := by decide +kernel
theorem dX5_exchange_7 : decode cX5_exchange 7 = .ok (.iload_n 1, 1) := by decide +kernel
theorem dX5_exchange_8 : decode cX5_exchange 8 = .ok (.iload_n 2, 1) := by decide +kernel
theorem dX5_exchange_9 : decode cX5_exchange 9 = .ok (.invokevirtual 19, 3) := by decide +kernel
theorem dX5_exchange_12 : decode cX5_exchange 12 = .ok (.iload_n 3, 1) := by decide +kernel
theorem dX5_exchange_13 : decode cX5_exchange 13 = .ok (.ireturn, 1) := by decide +kernel
theorem dX5_wordAt_0 : decode cX5_wordAt 0 = .ok (.aload_n 0, 1) := by decide +kernel
theorem dX5_wordAt_1 : decode cX5_wordAt 1 = .ok (.getfield 11, 3) := by decide +kernel
theorem dX5_wordAt_4 : decode cX5_wordAt 4 = .ok (.iload_n 1, 1) := by decide +kernel
theorem dX5_wordAt_5 : decode cX5_wordAt 5 = .ok (.sipush 4095, 3) := by decide +kernel
theorem dX5_wordAt_8 : decode cX5_wordAt 8 = .ok (.iand, 1) := by decide +kernel
theorem dX5_wordAt_9 : decode cX5_wordAt 9 = .ok (.iaload, 1) := by decide +kernel
theorem dX5_wordAt_10 : decode cX5_wordAt 10 = .ok (.aload_n 0, 1) := by decide +kernel
theorem dX5_wordAt_11 : decode cX5_wordAt 11 = .ok (.getfield 11, 3) := by decide +kernel
theorem dX5_wordAt_14 : decode cX5_wordAt 14 = .ok (.iload_n 1, 1) := by decide +kernel
theorem dX5_wordAt_15 : decode cX5_wordAt 15 = .ok (.iconst 1, 1) := by decide +kernel
theorem dX5_wordAt_16 : decode cX5_wordAt 16 = .ok (.iadd, 1) := by decide +kernel
theorem dX5_wordAt_17 : decode cX5_wordAt 17 = .ok (.sipush 4095, 3) := by decide +kernel
theorem dX5_wordAt_20 : decode cX5_wordAt 20 = .ok (.iand, 1) := by decide +kernel
theorem dX5_wordAt_21 : decode cX5_wordAt 21 = .ok (.iaload, 1) := by decide +kernel
theorem dX5_wordAt_22 : decode cX5_wordAt 22 = .ok (.bipush 8, 2) := by decide +kernel
theorem dX5_wordAt_24 : decode cX5_wordAt 24 = .ok (.ishl, 1) := by decide +kernel
theorem dX5_wordAt_25 : decode cX5_wordAt 25 = .ok (.ior, 1) := by decide +kernel
theorem dX5_wordAt_26 : decode cX5_wordAt 26 = .ok (.ireturn, 1) := by decide +kernel
theorem dX5_setWord_0 : decode cX5_setWord 0 = .ok (.aload_n 0, 1) := by decide +kernel
theorem dX5_setWord_1 : decode cX5_setWord 1 = .ok (.getfield 11, 3) := by decide +kernel
theorem dX5_setWord_4 : decode cX5_setWord 4 = .ok (.iload_n 1, 1) := by decide +kernel
theorem dX5_setWord_5 : decode cX5_setWord 5 = .ok (.sipush 4095, 3) := by decide +kernel
theorem dX5_setWord_8 : decode cX5_setWord 8 = .ok (.iand, 1) := by decide +kernel
theorem dX5_setWord_9 : decode cX5_setWord 9 = .ok (.iload_n 2, 1) := by decide +kernel
theorem dX5_setWord_10 : decode cX5_setWord 10 = .ok (.sipush 255, 3) := by decide +kernel
theorem dX5_setWord_13 : decode cX5_setWord 13 = .ok (.iand, 1) := by decide +kernel
theorem dX5_setWord_14 : decode cX5_setWord 14 = .ok (.iastore, 1) := by decide +kernel
theorem dX5_setWord_15 : decode cX5_setWord 15 = .ok (.aload_n 0, 1) := by decide +kernel
theorem dX5_setWord_16 : decode cX5_setWord 16 = .ok (.getfield 11, 3) := by decide +kernel
theorem dX5_setWord_19 : decode cX5_setWord 19 = .ok (.iload_n 1, 1) := by decide +kernel
theorem dX5_setWord_20 : decode cX5_setWord 20 = .ok (.iconst 1, 1) := by decide +kernel
theorem dX5_setWord_21 : decode cX5_setWord 21 = .ok (.iadd, 1) := by decide +kernel
theorem dX5_setWord_22 : decode cX5_setWord 22 = .ok (.sipush 4095, 3) := by decide +kernel
theorem dX5_setWord_25 : decode cX5_setWord 25 = .ok (.iand, 1) := by decide +kernel
theorem dX5_setWord_26 : decode cX5_setWord 26 = .ok (.iload_n 2, 1) := by decide +kernel
theorem dX5_setWord_27 : decode cX5_setWord 27 = .ok (.bipush 8, 2) := by decide +kernel
theorem dX5_setWord_29 : decode cX5_setWord 29 = .ok (.ishr, 1) := by decide +kernel
theorem dX5_setWord_30 : decode cX5_setWord 30 = .ok (.sipush 255, 3) := by decide +kernel
theorem dX5_setWord_33 : decode cX5_setWord 33 = .ok (.iand, 1) := by decide +kernel
theorem dX5_setWord_34 : decode cX5_setWord 34 = .ok (.iastore, 1) := by decide +kernel
theorem dX5_setWord_35 : decode cX5_setWord 35 = .ok (.return_, 1) := by decide +kernel
theorem dX5_weighedTotal_0 : decode cX5_weighedTotal 0 = .ok (.iconst 0, 1) := by decide +kernel
theorem dX5_weighedTotal_1 : decode cX5_weighedTotal 1 = .ok (.istore_n 1, 1) := by decide +kernel
theorem dX5_weighedTotal_2 : decode cX5_weighedTotal 2 = .ok (.iconst 0, 1) := by decide +kernel
theorem dX5_weighedTotal_3 : decode cX5_weighedTotal 3 = .ok (.istore_n 2, 1) := by decide +kernel
theorem dX5_weighedTotal_4 : decode cX5_weighedTotal 4 = .ok (.iload_n 2, 1) := by decide +kernel
theorem dX5_weighedTotal_5 : decode cX5_weighedTotal 5 = .ok (.sipush 4096, 3) := by decide +kernel
theorem dX5_weighedTotal_8 : decode cX5_weighedTotal 8 = .ok (.if_icmp .ge 22, 3) := by decide +kernel
theorem dX5_weighedTotal_11 : decode cX5_weighedTotal 11 = .ok (.iload_n 1, 1) := by decide +kernel
theorem dX5_weighedTotal_12 : decode cX5_weighedTotal 12 = .ok (.aload_n 0, 1) := by decide +kernel
theorem dX5_weighedTotal_13 : decode cX5_weighedTotal 13 = .ok (.getfield 11, 3) := by decide +kernel
theorem dX5_weighedTotal_16 : decode cX5_weighedTotal 16 = .ok (.iload_n 2, 1) := by decide +kernel
theorem dX5_weighedTotal_17 : decode cX5_weighedTotal 17 = .ok (.iaload, 1) := by decide +kernel
theorem dX5_weighedTotal_18 : decode cX5_weighedTotal 18 = .ok (.iload_n 2, 1) := by decide +kernel
theorem dX5_weighedTotal_19 : decode cX5_weighedTotal 19 = .ok (.iconst 1, 1) := by decide +kernel
theorem dX5_weighedTotal_20 : decode cX5_weighedTotal 20 = .ok (.iadd, 1) := by decide +kernel
theorem dX5_weighedTotal_21 : decode cX5_weighedTotal 21 = .ok (.imul, 1) := by decide +kernel
theorem dX5_weighedTotal_22 : decode cX5_weighedTotal 22 = .ok (.iadd, 1) := by decide +kernel
theorem dX5_weighedTotal_23 : decode cX5_weighedTotal 23 = .ok (.istore_n 1, 1) := by decide +kernel
theorem dX5_weighedTotal_24 : decode cX5_weighedTotal 24 = .ok (.iinc 2 1, 3) := by decide +kernel
theorem dX5_weighedTotal_27 : decode cX5_weighedTotal 27 = .ok (.goto (-23), 3) := by decide +kernel
theorem dX5_weighedTotal_30 : decode cX5_weighedTotal 30 = .ok (.iload_n 1, 1) := by decide +kernel
theorem dX5_weighedTotal_31 : decode cX5_weighedTotal 31 = .ok (.ireturn, 1) := by decide +kernel
set_option maxRecDepth 20000 in
theorem ggX6_init_X5_init : GoodIn wsX6_init wsX5_init := goodIn_r _ [22, 23, 2, 3, 24, 25, 62] (by decide +kernel) (by decide +kernel)
set_option maxRecDepth 20000 in
theorem gX6_init_X5_init_n9 : GoodIn wsX6_init (wsX5_init) := ggX6_init_X5_init
set_option maxRecDepth 20000 in
theorem ggX6_init_X1_init : GoodIn wsX6_init wsX1_init := goodIn_r _ [27, 28, 2, 3, 24, 29, 30, 68, 69, 70, 71, 72] (by decide +kernel) (by decide +kernel)
set_option maxRecDepth 20000 in
theorem gX6_init_X1_init_n21 : GoodIn wsX6_init (wsX1_init) := ggX6_init_X1_init
set_option maxRecDepth 20000 in
theorem ggX6_init_X2_init : GoodIn wsX6_init wsX2_init := goodIn_r _ [33, 34, 2, 3, 35, 36, 73, 74, 75, 76, 77, 78, 79, 80, 81, 82, 83] (by decide +kernel) (by decide +kernel)
set_option maxRecDepth 20000 in
theorem gX6_init_X2_init : GoodIn wsX6_init (wsX2_init) := ggX6_init_X2_init
set_option maxRecDepth 20000 in
theorem ggX6_init_X4_init : GoodIn wsX6_init wsX4_init := goodIn_r _ [39, 40, 2, 3, 41, 42, 43, 44, 45, 46, 47, 48, 24, 49, 50, 51, 52, 53, 54, 55, 56, 57, 58, 59, 60, 61, 97, 98, 99, 100, 101, 84, 85, 86, 87, 88, 89, 90, 91, 92, 93, 94, 95, 96, 102] (by decide +kernel) (by decide +kernel)
set_option maxRecDepth 20000 in
theorem gX6_init_X4_init : GoodIn wsX6_init (wsX4_init) := ggX6_init_X4_init
theorem dX6_init_0 : decode cX6_init 0 = .ok (.aload_n 0, 1) := by decide +kernel
theorem dX6_init_1 : decode cX6_init 1 = .ok (.invokespecial 1, 3) := by decide +kernel
theorem dX6_init_4 : decode cX6_init 4 = .ok (.aload_n 0, 1) := by decide +kernel
theorem dX6_init_5 : decode cX6_init 5 = .ok (.new 7, 3) := by decide +kernel
theorem dX6_init_8 : decode cX6_init 8 = .ok (.dup, 1) := by decide +kernel
theorem dX6_init_9 : decode cX6_init 9 = .ok (.invokespecial 9, 3) := by decide +kernel
theorem dX6_init_12 : decode cX6_init 12 = .ok (.putfield 10, 3) := by decide +kernel
theorem dX6_init_15 : decode cX6_init 15 = .ok (.aload_n 0, 1) := by decide +kernel
theorem dX6_init_16 : decode cX6_init 16 = .ok (.new 7, 3) := by decide +kernel
theorem dX6_init_19 : decode cX6_init 19 = .ok (.dup, 1) := by decide +kernel
theorem dX6_init_20 : decode cX6_init 20 = .ok (.invokespecial 9, 3) := by decide +kernel
theorem dX6_init_23 : decode cX6_init 23 = .ok (.putfield 16, 3) := by decide +kernel
theorem dX6_init_26 : decode cX6_init 26 = .ok (.aload_n 0, 1) := by decide +kernel
theorem dX6_init_27 : decode cX6_init 27 = .ok (.new 19, 3) := by decide +kernel
theorem dX6_init_30 : decode cX6_init 30 = .ok (.dup, 1) := by decide +kernel
theorem dX6_init_31 : decode cX6_init 31 = .ok (.invokespecial 21, 3) := by decide +kernel
theorem dX6_init_34 : decode cX6_init 34 = .ok (.putfield 22, 3) := by decide +kernel
theorem dX6_init_37 : decode cX6_init 37 = .ok (.aload_n 0, 1) := by decide +kernel
theorem dX6_init_38 : decode cX6_init 38 = .ok (.new 26, 3) := by decide +kernel
theorem dX6_init_41 : decode cX6_init 41 = .ok (.dup, 1) := by decide +kernel
theorem dX6_init_42 : decode cX6_init 42 = .ok (.aload_n 0, 1) := by decide +kernel
theorem dX6_init_43 : decode cX6_init 43 = .ok (.getfield 10, 3) := by decide +kernel
theorem dX6_init_46 : decode cX6_init 46 = .ok (.aload_n 0, 1) := by decide +kernel
theorem dX6_init_47 : decode cX6_init 47 = .ok (.getfield 16, 3) := by decide +kernel
theorem dX6_init_50 : decode cX6_init 50 = .ok (.invokespecial 28, 3) := by decide +kernel
theorem dX6_init_53 : decode cX6_init 53 = .ok (.putfield 31, 3) := by decide +kernel
theorem dX6_init_56 : decode cX6_init 56 = .ok (.aload_n 0, 1) := by decide +kernel
theorem dX6_init_57 : decode cX6_init 57 = .ok (.new 35, 3) := by decide +kernel
theorem dX6_init_60 : decode cX6_init 60 = .ok (.dup, 1) := by decide +kernel
theorem dX6_init_61 : decode cX6_init 61 = .ok (.aload_n 0, 1) := by decide +kernel
theorem dX6_init_62 : decode cX6_init 62 = .ok (.getfield 10, 3) := by decide +kernel
theorem dX6_init_65 : decode cX6_init 65 = .ok (.aload_n 0, 1) := by decide +kernel
theorem dX6_init_66 : decode cX6_init 66 = .ok (.getfield 22, 3) := by decide +kernel
theorem dX6_init_69 : decode cX6_init 69 = .ok (.aload_n 0, 1) := by decide +kernel
theorem dX6_init_70 : decode cX6_init 70 = .ok (.getfield 31, 3) := by decide +kernel
theorem dX6_init_73 : decode cX6_init 73 = .ok (.invokespecial 37, 3) := by decide +kernel
theorem dX6_init_76 : decode cX6_init 76 = .ok (.putfield 40, 3) := by decide +kernel
theorem dX6_init_79 : decode cX6_init 79 = .ok (.return_, 1) := by decide +kernel
set_option maxRecDepth 20000 in
theorem ggX6_write_X6_isPlace : GoodIn wsX6_write wsX6_isPlace := goodIn_r _ [7] (by decide +kernel) (by decide +kernel)
set_option maxRecDepth 20000 in
theorem gX6_write_X6_isPlace : GoodIn wsX6_write (va_wsS RX6 44 yX6_isPlace wsX6_isPlace) := goodIn_app (goodIn_of _ (by decide +kernel)) ggX6_write_X6_isPlace
set_option maxRecDepth 20000 in
theorem ggX6_write_X6_isByte : GoodIn wsX6_write wsX6_isByte := goodIn_r _ [10] (by decide +kernel) (by decide +kernel)
set_option maxRecDepth 20000 in
theorem gX6_write_X6_isByte : GoodIn wsX6_write (va_wsS RX6 48 yX6_isByte wsX6_isByte) := goodIn_app (goodIn_of _ (by decide +kernel)) ggX6_write_X6_isByte
set_option maxRecDepth 20000 in
theorem ggX6_write_X5_exchange : GoodIn wsX6_write wsX5_exchange := goodIn_r _ [15, 16, 17, 18, 14, 19, 20, 21, 22, 23, 24, 30] (by decide +kernel) (by decide +kernel)
set_option maxRecDepth 20000 in
theorem gX6_write_X5_exchange : GoodIn wsX6_write (wsV RX6 54 RX5 yX5_exchange wsX5_exchange) := goodIn_app (goodIn_of _ (by decide +kernel)) ggX6_write_X5_exchange
theorem dX6_write_0 : decode cX6_write 0 = .ok (.iload_n 1, 1) := by decide +kernel
theorem dX6_write_1 : decode cX6_write 1 = .ok (.invokestatic 44, 3) := by decide +kernel
theorem dX6_write_4 : decode cX6_write 4 = .ok (.ifCond .eq 10, 3) := by decide +kernel
theorem dX6_write_7 : decode cX6_write 7 = .ok (.iload_n 2, 1) := by decide +kernel
theorem dX6_write_8 : decode cX6_write 8 = .ok (.invokestatic 48, 3) := by decide +kernel
theorem dX6_write_11 : decode cX6_write 11 = .ok (.ifCond .ne 11, 3) := by decide +kernel
theorem dX6_write_14 : decode cX6_write 14 = .ok (.new 51, 3) := by decide +kernel
theorem dX6_write_17 : decode cX6_write 17 = .ok (.dup, 1) := by decide +kernel
theorem dX6_write_18 : decode cX6_write 18 = .ok (.invokespecial 53, 3) := by decide +kernel
theorem dX6_write_21 : decode cX6_write 21 = .ok (.athrow, 1) := by decide +kernel
theorem dX6_write_22 : decode cX6_write 22 = .ok (.aload_n 0, 1) := by decide +kernel
theorem dX6_write_23 : decode cX6_write 23 = .ok (.getfield 10, 3) := by decide +kernel
theorem dX6_write_26 : decode cX6_write 26 = .ok (.iload_n 1, 1) := by decide +kernel
theorem dX6_write_27 : decode cX6_write 27 = .ok (.iload_n 2, 1) := by decide +kernel
theorem dX6_write_28 : decode cX6_write 28 = .ok (.invokevirtual 54, 3) := by decide +kernel
theorem dX6_write_31 : decode cX6_write 31 = .ok (.ireturn, 1) := by decide +kernel
set_option maxRecDepth 20000 in
theorem ggX6_read_X6_isPlace : GoodIn wsX6_read wsX6_isPlace := goodIn_r _ [7] (by decide +kernel) (by decide +kernel)
set_option maxRecDepth 20000 in
theorem gX6_read_X6_isPlace : GoodIn wsX6_read (va_wsS RX6 44 yX6_isPlace wsX6_isPlace) := goodIn_app (goodIn_of _ (by decide +kernel)) ggX6_read_X6_isPlace
set_option maxRecDepth 20000 in
theorem ggX6_read_X5_byteAt : GoodIn wsX6_read wsX5_byteAt := goodIn_r _ [12, 13, 19] (by decide +kernel) (by decide +kernel)
set_option maxRecDepth 20000 in
theorem gX6_read_X5_byteAt : GoodIn wsX6_read (wsV RX6 58 RX5 yX5_byteAt wsX5_byteAt) := goodIn_app (goodIn_of _ (by decide +kernel)) ggX6_read_X5_byteAt
theorem dX6_read_0 : decode cX6_read 0 = .ok (.iload_n 1, 1) := by decide +kernel
theorem dX6_read_1 : decode cX6_read 1 = .ok (.invokestatic 44, 3) := by decide +kernel
theorem dX6_read_4 : decode cX6_read 4 = .ok (.ifCond .ne 11, 3) := by decide +kernel
theorem dX6_read_7 : decode cX6_read 7 = .ok (.new 51, 3) := by decide +kernel
theorem dX6_read_10 : decode cX6_read 10 = .ok (.dup, 1) := by decide +kernel
theorem dX6_read_11 : decode cX6_read 11 = .ok (.invokespecial 53, 3) := by decide +kernel
theorem dX6_read_14 : decode cX6_read 14 = .ok (.athrow, 1) := by decide +kernel
theorem dX6_read_15 : decode cX6_read 15 = .ok (.aload_n 0, 1) := by decide +kernel
theorem dX6_read_16 : decode cX6_read 16 = .ok (.getfield 10, 3) := by decide +kernel
theorem dX6_read_19 : decode cX6_read 19 = .ok (.iload_n 1, 1) := by decide +kernel
theorem dX6_read_20 : decode cX6_read 20 = .ok (.invokevirtual 58, 3) := by decide +kernel
theorem dX6_read_23 : decode cX6_read 23 = .ok (.ireturn, 1) := by decide +kernel
set_option maxRecDepth 20000 in
theorem ggX6_writeDisk_X6_isPlace : GoodIn wsX6_writeDisk wsX6_isPlace := goodIn_r _ [7] (by decide +kernel) (by decide +kernel)
set_option maxRecDepth 20000 in
theorem gX6_writeDisk_X6_isPlace : GoodIn wsX6_writeDisk (va_wsS RX6 44 yX6_isPlace wsX6_isPlace) := goodIn_app (goodIn_of _ (by decide +kernel)) ggX6_writeDisk_X6_isPlace
set_option maxRecDepth 20000 in
theorem ggX6_writeDisk_X6_isByte : GoodIn wsX6_writeDisk wsX6_isByte := goodIn_r _ [10] (by decide +kernel) (by decide +kernel)
set_option maxRecDepth 20000 in
theorem gX6_writeDisk_X6_isByte : GoodIn wsX6_writeDisk (va_wsS RX6 48 yX6_isByte wsX6_isByte) := goodIn_app (goodIn_of _ (by decide +kernel)) ggX6_writeDisk_X6_isByte
set_option maxRecDepth 20000 in
theorem ggX6_writeDisk_X5_exchange : GoodIn wsX6_writeDisk wsX5_exchange := goodIn_r _ [15, 16, 17, 18, 14, 19, 20, 21, 22, 23, 24, 30] (by decide +kernel) (by decide +kernel)
set_option maxRecDepth 20000 in
theorem gX6_writeDisk_X5_exchange : GoodIn wsX6_writeDisk (wsV RX6 54 RX5 yX5_exchange wsX5_exchange) := goodIn_app (goodIn_of _ (by decide +kernel)) ggX6_writeDisk_X5_exchange
theorem dX6_writeDisk_0 : decode cX6_writeDisk 0 = .ok (.iload_n 1, 1) := by decide +kernel
theorem dX6_writeDisk_1 : decode cX6_writeDisk 1 = .ok (.invokestatic 44, 3) := by decide +kernel
theorem dX6_writeDisk_4 : decode cX6_writeDisk 4 = .ok (.ifCond .eq 10, 3) := by decide +kernel
theorem dX6_writeDisk_7 : decode cX6_writeDisk 7 = .ok (.iload_n 2, 1) := by decide +kernel
theorem dX6_writeDisk_8 : decode cX6_writeDisk 8 = .ok (.invokestatic 48, 3) := by decide +kernel
theorem dX6_writeDisk_11 : decode cX6_writeDisk 11 = .ok (.ifCond .ne 11, 3) := by decide +kernel
theorem dX6_writeDisk_14 : decode cX6_writeDisk 14 = .ok (.new 51, 3) := by decide +kernel
theorem dX6_writeDisk_17 : decode cX6_writeDisk 17 = .ok (.dup, 1) := by decide +kernel
theorem dX6_writeDisk_18 : decode cX6_writeDisk 18 = .ok (.invokespecial 53, 3) := by decide +kernel
theorem dX6_writeDisk_21 : decode cX6_writeDisk 21 = .ok (.athrow, 1) := by decide +kernel
theorem dX6_writeDisk_22 : decode cX6_writeDisk 22 = .ok (.aload_n 0, 1) := by decide +kernel
theorem dX6_writeDisk_23 : decode cX6_writeDisk 23 = .ok (.getfield 16, 3) := by decide +kernel
theorem dX6_writeDisk_26 : decode cX6_writeDisk 26 = .ok (.iload_n 1, 1) := by decide +kernel
theorem dX6_writeDisk_27 : decode cX6_writeDisk 27 = .ok (.iload_n 2, 1) := by decide +kernel
theorem dX6_writeDisk_28 : decode cX6_writeDisk 28 = .ok (.invokevirtual 54, 3) := by decide +kernel
theorem dX6_writeDisk_31 : decode cX6_writeDisk 31 = .ok (.ireturn, 1) := by decide +kernel
set_option maxRecDepth 20000 in
theorem ggX6_readDisk_X6_isPlace : GoodIn wsX6_readDisk wsX6_isPlace := goodIn_r _ [7] (by decide +kernel) (by decide +kernel)
set_option maxRecDepth 20000 in
theorem gX6_readDisk_X6_isPlace : GoodIn wsX6_readDisk (va_wsS RX6 44 yX6_isPlace wsX6_isPlace) := goodIn_app (goodIn_of _ (by decide +kernel)) ggX6_readDisk_X6_isPlace
set_option maxRecDepth 20000 in
theorem ggX6_readDisk_X5_byteAt : GoodIn wsX6_readDisk wsX5_byteAt := goodIn_r _ [12, 13, 19] (by decide +kernel) (by decide +kernel)
set_option maxRecDepth 20000 in
theorem gX6_readDisk_X5_byteAt : GoodIn wsX6_readDisk (wsV RX6 58 RX5 yX5_byteAt wsX5_byteAt) := goodIn_app (goodIn_of _ (by decide +kernel)) ggX6_readDisk_X5_byteAt
theorem dX6_readDisk_0 : decode cX6_readDisk 0 = .ok (.iload_n 1, 1) := by decide +kernel
theorem dX6_readDisk_1 : decode cX6_readDisk 1 = .ok (.invokestatic 44, 3) := by decide +kernel
theorem dX6_readDisk_4 : decode cX6_readDisk 4 = .ok (.ifCond .ne 11, 3) := by decide +kernel
theorem dX6_readDisk_7 : decode cX6_readDisk 7 = .ok (.new 51, 3) := by decide +kernel
theorem dX6_readDisk_10 : decode cX6_readDisk 10 = .ok (.dup, 1) := by decide +kernel
theorem dX6_readDisk_11 : decode cX6_readDisk 11 = .ok (.invokespecial 53, 3) := by decide +kernel
theorem dX6_readDisk_14 : decode cX6_readDisk 14 = .ok (.athrow, 1) := by decide +kernel
theorem dX6_readDisk_15 : decode cX6_readDisk 15 = .ok (.aload_n 0, 1) := by decide +kernel
theorem dX6_readDisk_16 : decode cX6_readDisk 16 = .ok (.getfield 16, 3) := by decide +kernel
theorem dX6_readDisk_19 : decode cX6_readDisk 19 = .ok (.iload_n 1, 1) := by decide +kernel
theorem dX6_readDisk_20 : decode cX6_readDisk 20 = .ok (.invokevirtual 58, 3) := by decide +kernel
theorem dX6_readDisk_23 : decode cX6_readDisk 23 = .ok (.ireturn, 1) := by decide +kernel
set_option maxRecDepth 20000 in
theorem ggX6_register_X4_shows : GoodIn wsX6_register wsX4_shows := goodIn_r _ [7] (by decide +kernel) (by decide +kernel)
set_option maxRecDepth 20000 in
theorem gX6_register_X4_shows : GoodIn wsX6_register (va_wsS RX6 62 yX4_shows wsX4_shows) := goodIn_app (goodIn_of _ (by decide +kernel)) ggX6_register_X4_shows
set_option maxRecDepth 20000 in
theorem ggX6_register_X4_shown : GoodIn wsX6_register wsX4_shown := goodIn_r _ [11, 12, 13, 14, 15, 16, 17, 18, 19, 20, 21, 22, 23, 24, 25, 31, 32, 33, 34, 35, 36, 37, 38, 39, 40, 41, 42, 43, 44, 45, 46, 47, 48] (by decide +kernel) (by decide +kernel)
set_option maxRecDepth 20000 in
theorem gX6_register_X4_shown : GoodIn wsX6_register (wsV RX6 68 RX4 yX4_shown wsX4_shown) := goodIn_app (goodIn_of _ (by decide +kernel)) ggX6_register_X4_shown
theorem dX6_register_0 : decode cX6_register 0 = .ok (.iload_n 1, 1) := by decide +kernel
theorem dX6_register_1 : decode cX6_register 1 = .ok (.invokestatic 62, 3) := by decide +kernel
theorem dX6_register_4 : decode cX6_register 4 = .ok (.ifCond .ne 11, 3) := by decide +kernel
theorem dX6_register_7 : decode cX6_register 7 = .ok (.new 65, 3) := by decide +kernel
theorem dX6_register_10 : decode cX6_register 10 = .ok (.dup, 1) := by decide +kernel
theorem dX6_register_11 : decode cX6_register 11 = .ok (.invokespecial 67, 3) := by decide +kernel
theorem dX6_register_14 : decode cX6_register 14 = .ok (.athrow, 1) := by decide +kernel
theorem dX6_register_15 : decode cX6_register 15 = .ok (.aload_n 0, 1) := by decide +kernel
theorem dX6_register_16 : decode cX6_register 16 = .ok (.getfield 40, 3) := by decide +kernel
theorem dX6_register_19 : decode cX6_register 19 = .ok (.iload_n 1, 1) := by decide +kernel
theorem dX6_register_20 : decode cX6_register 20 = .ok (.invokevirtual 68, 3) := by decide +kernel
theorem dX6_register_23 : decode cX6_register 23 = .ok (.ireturn, 1) := by decide +kernel
set_option maxRecDepth 20000 in
theorem ggX6_put_X4_shows : GoodIn wsX6_put wsX4_shows := goodIn_r _ [7] (by decide +kernel) (by decide +kernel)
set_option maxRecDepth 20000 in
theorem gX6_put_X4_shows : GoodIn wsX6_put (va_wsS RX6 62 yX4_shows wsX4_shows) := goodIn_app (goodIn_of _ (by decide +kernel)) ggX6_put_X4_shows
set_option maxRecDepth 20000 in
theorem ggX6_put_X4_change : GoodIn wsX6_put wsX4_change := goodIn_r _ [11, 12, 13, 14, 15, 16, 17, 18, 19, 20, 21, 22, 23, 24, 25, 26, 32, 33, 34, 35, 36, 37, 38, 39, 40, 41, 42, 43, 44, 45, 46, 47, 48, 49] (by decide +kernel) (by decide +kernel)
set_option maxRecDepth 20000 in
theorem gX6_put_X4_change : GoodIn wsX6_put (wsV RX6 71 RX4 yX4_change wsX4_change) := goodIn_app (goodIn_of _ (by decide +kernel)) ggX6_put_X4_change
theorem dX6_put_0 : decode cX6_put 0 = .ok (.iload_n 1, 1) := by decide +kernel
theorem dX6_put_1 : decode cX6_put 1 = .ok (.invokestatic 62, 3) := by decide +kernel
theorem dX6_put_4 : decode cX6_put 4 = .ok (.ifCond .ne 11, 3) := by decide +kernel
theorem dX6_put_7 : decode cX6_put 7 = .ok (.new 65, 3) := by decide +kernel
theorem dX6_put_10 : decode cX6_put 10 = .ok (.dup, 1) := by decide +kernel
theorem dX6_put_11 : decode cX6_put 11 = .ok (.invokespecial 67, 3) := by decide +kernel
theorem dX6_put_14 : decode cX6_put 14 = .ok (.athrow, 1) := by decide +kernel
theorem dX6_put_15 : decode cX6_put 15 = .ok (.aload_n 0, 1) := by decide +kernel
theorem dX6_put_16 : decode cX6_put 16 = .ok (.getfield 40, 3) := by decide +kernel
theorem dX6_put_19 : decode cX6_put 19 = .ok (.iload_n 1, 1) := by decide +kernel
theorem dX6_put_20 : decode cX6_put 20 = .ok (.iload_n 2, 1) := by decide +kernel
theorem dX6_put_21 : decode cX6_put 21 = .ok (.invokevirtual 71, 3) := by decide +kernel
theorem dX6_put_24 : decode cX6_put 24 = .ok (.return_, 1) := by decide +kernel
set_option maxRecDepth 20000 in
theorem ggX6_type_X6_isByte : GoodIn wsX6_type wsX6_isByte := goodIn_r _ [7] (by decide +kernel) (by decide +kernel)
set_option maxRecDepth 20000 in
theorem gX6_type_X6_isByte : GoodIn wsX6_type (va_wsS RX6 48 yX6_isByte wsX6_isByte) := goodIn_app (goodIn_of _ (by decide +kernel)) ggX6_type_X6_isByte
set_option maxRecDepth 20000 in
theorem ggX6_type_X1_takeKey : GoodIn wsX6_type wsX1_takeKey := goodIn_r _ [12, 13, 14, 15, 21, 22, 23, 24, 25] (by decide +kernel) (by decide +kernel)
set_option maxRecDepth 20000 in
theorem gX6_type_X1_takeKey : GoodIn wsX6_type (wsV RX6 75 RX1 yX1_takeKey wsX1_takeKey) := goodIn_app (goodIn_of _ (by decide +kernel)) ggX6_type_X1_takeKey
theorem dX6_type_0 : decode cX6_type 0 = .ok (.iload_n 1, 1) := by decide +kernel
theorem dX6_type_1 : decode cX6_type 1 = .ok (.invokestatic 48, 3) := by decide +kernel
theorem dX6_type_4 : decode cX6_type 4 = .ok (.ifCond .ne 11, 3) := by decide +kernel
theorem dX6_type_7 : decode cX6_type 7 = .ok (.new 51, 3) := by decide +kernel
theorem dX6_type_10 : decode cX6_type 10 = .ok (.dup, 1) := by decide +kernel
theorem dX6_type_11 : decode cX6_type 11 = .ok (.invokespecial 53, 3) := by decide +kernel
theorem dX6_type_14 : decode cX6_type 14 = .ok (.athrow, 1) := by decide +kernel
theorem dX6_type_15 : decode cX6_type 15 = .ok (.aload_n 0, 1) := by decide +kernel
theorem dX6_type_16 : decode cX6_type 16 = .ok (.getfield 22, 3) := by decide +kernel
theorem dX6_type_19 : decode cX6_type 19 = .ok (.iload_n 1, 1) := by decide +kernel
theorem dX6_type_20 : decode cX6_type 20 = .ok (.invokevirtual 75, 3) := by decide +kernel
theorem dX6_type_23 : decode cX6_type 23 = .ok (.ireturn, 1) := by decide +kernel
set_option maxRecDepth 20000 in
theorem ggX6_written_X1_writtenCount : GoodIn wsX6_written wsX1_writtenCount := goodIn_r _ [6, 7, 13, 14, 15, 16, 17] (by decide +kernel) (by decide +kernel)
set_option maxRecDepth 20000 in
theorem gX6_written_X1_writtenCount : GoodIn wsX6_written (wsV RX6 78 RX1 yX1_writtenCount wsX1_writtenCount) := goodIn_app (goodIn_of _ (by decide +kernel)) ggX6_written_X1_writtenCount
theorem dX6_written_0 : decode cX6_written 0 = .ok (.aload_n 0, 1) := by decide +kernel
theorem dX6_written_1 : decode cX6_written 1 = .ok (.getfield 22, 3) := by decide +kernel
theorem dX6_written_4 : decode cX6_written 4 = .ok (.invokevirtual 78, 3) := by decide +kernel
theorem dX6_written_7 : decode cX6_written 7 = .ok (.ireturn, 1) := by decide +kernel
set_option maxRecDepth 20000 in
theorem ggX6_text_X1_keeps : GoodIn wsX6_text wsX1_keeps := goodIn_r _ [8, 9, 20, 21, 22, 23, 24] (by decide +kernel) (by decide +kernel)
set_option maxRecDepth 20000 in
theorem gX6_text_X1_keeps : GoodIn wsX6_text (wsV RX6 82 RX1 yX1_keeps wsX1_keeps) := goodIn_app (goodIn_of _ (by decide +kernel)) ggX6_text_X1_keeps
set_option maxRecDepth 20000 in
theorem ggX6_text_X1_writtenByte : GoodIn wsX6_text wsX1_writtenByte := goodIn_r _ [13, 14, 20, 21, 22, 23, 24] (by decide +kernel) (by decide +kernel)
set_option maxRecDepth 20000 in
theorem gX6_text_X1_writtenByte : GoodIn wsX6_text (wsV RX6 85 RX1 yX1_writtenByte wsX1_writtenByte) := goodIn_app (goodIn_of _ (by decide +kernel)) ggX6_text_X1_writtenByte
theorem dX6_text_0 : decode cX6_text 0 = .ok (.aload_n 0, 1) := by decide +kernel
theorem dX6_text_1 : decode cX6_text 1 = .ok (.getfield 22, 3) := by decide +kernel
theorem dX6_text_4 : decode cX6_text 4 = .ok (.iload_n 1, 1) := by decide +kernel
theorem dX6_text_5 : decode cX6_text 5 = .ok (.invokevirtual 82, 3) := by decide +kernel
theorem dX6_text_8 : decode cX6_text 8 = .ok (.ifCond .ne 11, 3) := by decide +kernel
theorem dX6_text_11 : decode cX6_text 11 = .ok (.new 65, 3) := by decide +kernel
theorem dX6_text_14 : decode cX6_text 14 = .ok (.dup, 1) := by decide +kernel
theorem dX6_text_15 : decode cX6_text 15 = .ok (.invokespecial 67, 3) := by decide +kernel
theorem dX6_text_18 : decode cX6_text 18 = .ok (.athrow, 1) := by decide +kernel
theorem dX6_text_19 : decode cX6_text 19 = .ok (.aload_n 0, 1) := by decide +kernel
theorem dX6_text_20 : decode cX6_text 20 = .ok (.getfield 22, 3) := by decide +kernel
theorem dX6_text_23 : decode cX6_text 23 = .ok (.iload_n 1, 1) := by decide +kernel
theorem dX6_text_24 : decode cX6_text 24 = .ok (.invokevirtual 85, 3) := by decide +kernel
theorem dX6_text_27 : decode cX6_text 27 = .ok (.ireturn, 1) := by decide +kernel
set_option maxRecDepth 20000 in
theorem ggX6_want_X4_callWith : GoodIn wsX6_want wsX4_callWith := goodIn_r _ [8, 9, 15, 16, 17, 18, 19, 20, 21, 22, 23, 24, 25, 26, 27] (by decide +kernel) (by decide +kernel)
set_option maxRecDepth 20000 in
theorem gX6_want_X4_callWith : GoodIn wsX6_want (wsV RX6 88 RX4 yX4_callWith wsX4_callWith) := goodIn_app (goodIn_of _ (by decide +kernel)) ggX6_want_X4_callWith
theorem dX6_want_0 : decode cX6_want 0 = .ok (.iload_n 1, 1) := by decide +kernel
theorem dX6_want_1 : decode cX6_want 1 = .ok (.ifCond .lt 9, 3) := by decide +kernel
theorem dX6_want_4 : decode cX6_want 4 = .ok (.iload_n 1, 1) := by decide +kernel
theorem dX6_want_5 : decode cX6_want 5 = .ok (.bipush 7, 2) := by decide +kernel
theorem dX6_want_7 : decode cX6_want 7 = .ok (.if_icmp .le 11, 3) := by decide +kernel
theorem dX6_want_10 : decode cX6_want 10 = .ok (.new 51, 3) := by decide +kernel
theorem dX6_want_13 : decode cX6_want 13 = .ok (.dup, 1) := by decide +kernel
theorem dX6_want_14 : decode cX6_want 14 = .ok (.invokespecial 53, 3) := by decide +kernel
theorem dX6_want_17 : decode cX6_want 17 = .ok (.athrow, 1) := by decide +kernel
theorem dX6_want_18 : decode cX6_want 18 = .ok (.aload_n 0, 1) := by decide +kernel
theorem dX6_want_19 : decode cX6_want 19 = .ok (.getfield 40, 3) := by decide +kernel
theorem dX6_want_22 : decode cX6_want 22 = .ok (.iload_n 1, 1) := by decide +kernel
theorem dX6_want_23 : decode cX6_want 23 = .ok (.invokevirtual 88, 3) := by decide +kernel
theorem dX6_want_26 : decode cX6_want 26 = .ok (.return_, 1) := by decide +kernel
set_option maxRecDepth 20000 in
theorem ggX6_step_X4_turn : GoodIn wsX6_step wsX4_turn := goodIn_r _ [8, 9, 10, 11, 12, 13, 14, 15, 16, 17, 7, 18, 19, 20, 21, 22, 23, 24, 25, 26, 27, 28, 29, 30, 31, 32, 33, 34, 35, 36, 37, 38, 39, 40, 41, 42, 43, 44, 45, 46, 47, 48, 49, 50, 51, 52, 53, 54, 55, 56, 57, 58, 59, 60, 61, 62, 63, 64, 65, 66, 67, 68, 69, 70, 71, 72, 73, 74, 75, 76, 77, 78, 79, 80, 81, 82, 83, 84, 85, 86, 87, 88, 89, 90, 91, 92, 93, 94, 95, 96, 97, 98, 99, 100, 101, 102, 103, 104, 105, 106, 107, 108, 109, 110, 111, 112, 113, 114, 115, 116, 117, 118, 119, 120, 121, 122, 123, 124, 125, 126, 127, 128, 129, 130, 131, 132, 133, 134, 135, 136, 137, 138, 139, 140, 141, 142, 143, 144, 145, 146, 147, 148, 149, 150, 151, 152, 153, 154, 155, 156, 157, 158, 159, 160, 161, 162, 163, 164, 165, 166, 167, 168, 169, 170, 171, 172, 173, 174, 175, 176, 177, 178, 179, 180, 181, 182, 183, 184, 185, 186, 187, 188, 189, 190, 191, 192, 193, 194, 195, 196, 197, 198, 199, 200, 201, 202, 203, 204, 205, 206, 207, 208, 209, 210, 211, 212, 213, 214, 215, 216, 217, 218, 219, 220, 221, 222, 223, 224, 225, 226, 227, 228, 229, 230, 231, 232, 233, 234, 235, 236, 237, 238, 239, 240, 241, 242, 243, 244, 245, 246, 247, 248, 249, 250, 251, 252, 253, 254, 255, 256, 257, 258, 259, 260, 261, 262, 263, 264, 265, 266, 267, 268, 269, 270, 271, 272, 273, 274, 275, 276, 277, 278, 279, 280, 281, 282, 283, 284, 285, 286, 287, 288, 289, 290, 291, 292, 293, 294, 295, 296, 297, 298, 299, 300, 301, 302, 303, 304, 305, 306, 307, 308, 309, 310, 311, 312, 313, 314, 320, 321, 322, 323, 324, 325, 326, 327, 328, 329, 330, 331, 332, 333, 334, 335, 336, 337, 338, 339, 340, 341, 342, 343, 344, 345, 346, 347, 348, 349, 350, 351, 352, 353, 354, 355] (by decide +kernel) (by decide +kernel)
set_option maxRecDepth 20000 in
theorem gX6_step_X4_turn : GoodIn wsX6_step (wsV RX6 92 RX4 yX4_turn wsX4_turn) := goodIn_app (goodIn_of _ (by decide +kernel)) ggX6_step_X4_turn
theorem dX6_step_0 : decode cX6_step 0 = .ok (.iload_n 1, 1) := by decide +kernel
theorem dX6_step_1 : decode cX6_step 1 = .ok (.ifCond .lt 10, 3) := by decide +kernel
theorem dX6_step_4 : decode cX6_step 4 = .ok (.iload_n 1, 1) := by decide +kernel
theorem dX6_step_5 : decode cX6_step 5 = .ok (.sipush 3000, 3) := by decide +kernel
theorem dX6_step_8 : decode cX6_step 8 = .ok (.if_icmp .le 11, 3) := by decide +kernel
theorem dX6_step_11 : decode cX6_step 11 = .ok (.new 51, 3) := by decide +kernel
theorem dX6_step_14 : decode cX6_step 14 = .ok (.dup, 1) := by decide +kernel
theorem dX6_step_15 : decode cX6_step 15 = .ok (.invokespecial 53, 3) := by decide +kernel
theorem dX6_step_18 : decode cX6_step 18 = .ok (.athrow, 1) := by decide +kernel
theorem dX6_step_19 : decode cX6_step 19 = .ok (.iconst 0, 1) := by decide +kernel
theorem dX6_step_20 : decode cX6_step 20 = .ok (.istore_n 2, 1) := by decide +kernel
theorem dX6_step_21 : decode cX6_step 21 = .ok (.iconst 0, 1) := by decide +kernel
theorem dX6_step_22 : decode cX6_step 22 = .ok (.istore_n 3, 1) := by decide +kernel
theorem dX6_step_23 : decode cX6_step 23 = .ok (.iload_n 3, 1) := by decide +kernel
theorem dX6_step_24 : decode cX6_step 24 = .ok (.iload_n 1, 1) := by decide +kernel
theorem dX6_step_25 : decode cX6_step 25 = .ok (.if_icmp .ge 19, 3) := by decide +kernel
theorem dX6_step_28 : decode cX6_step 28 = .ok (.iload_n 2, 1) := by decide +kernel
theorem dX6_step_29 : decode cX6_step 29 = .ok (.aload_n 0, 1) := by decide +kernel
theorem dX6_step_30 : decode cX6_step 30 = .ok (.getfield 40, 3) := by decide +kernel
theorem dX6_step_33 : decode cX6_step 33 = .ok (.invokevirtual 92, 3) := by decide +kernel
theorem dX6_step_36 : decode cX6_step 36 = .ok (.iadd, 1) := by decide +kernel
theorem dX6_step_37 : decode cX6_step 37 = .ok (.istore_n 2, 1) := by decide +kernel
theorem dX6_step_38 : decode cX6_step 38 = .ok (.iinc 3 1, 3) := by decide +kernel
theorem dX6_step_41 : decode cX6_step 41 = .ok (.goto (-18), 3) := by decide +kernel
theorem dX6_step_44 : decode cX6_step 44 = .ok (.iload_n 2, 1) := by decide +kernel
theorem dX6_step_45 : decode cX6_step 45 = .ok (.ireturn, 1) := by decide +kernel
set_option maxRecDepth 20000 in
theorem ggX6_cycles_X4_cyclesDone : GoodIn wsX6_cycles wsX4_cyclesDone := goodIn_r _ [6, 7, 13, 14, 15, 16, 17, 18, 19, 20, 21, 22, 23, 24, 25] (by decide +kernel) (by decide +kernel)
set_option maxRecDepth 20000 in
theorem gX6_cycles_X4_cyclesDone : GoodIn wsX6_cycles (wsV RX6 95 RX4 yX4_cyclesDone wsX4_cyclesDone) := goodIn_app (goodIn_of _ (by decide +kernel)) ggX6_cycles_X4_cyclesDone
theorem dX6_cycles_0 : decode cX6_cycles 0 = .ok (.aload_n 0, 1) := by decide +kernel
theorem dX6_cycles_1 : decode cX6_cycles 1 = .ok (.getfield 40, 3) := by decide +kernel
theorem dX6_cycles_4 : decode cX6_cycles 4 = .ok (.invokevirtual 95, 3) := by decide +kernel
theorem dX6_cycles_7 : decode cX6_cycles 7 = .ok (.lreturn, 1) := by decide +kernel
set_option maxRecDepth 20000 in
theorem ggX6_told_X4_isHalted : GoodIn wsX6_told wsX4_isHalted := goodIn_r _ [9, 10, 42, 43, 44, 45, 46, 47, 48, 49, 50, 51, 52, 53, 54] (by decide +kernel) (by decide +kernel)
set_option maxRecDepth 20000 in
theorem gX6_told_X4_isHalted : GoodIn wsX6_told (wsV RX6 99 RX4 yX4_isHalted wsX4_isHalted) := goodIn_app (goodIn_of _ (by decide +kernel)) ggX6_told_X4_isHalted
set_option maxRecDepth 20000 in
theorem ggX6_told_X4_hasInterruptsOn : GoodIn wsX6_told wsX4_hasInterruptsOn := goodIn_r _ [14, 15, 42, 43, 44, 45, 46, 47, 48, 49, 50, 51, 52, 53, 54] (by decide +kernel) (by decide +kernel)
set_option maxRecDepth 20000 in
theorem gX6_told_X4_hasInterruptsOn : GoodIn wsX6_told (wsV RX6 103 RX4 yX4_hasInterruptsOn wsX4_hasInterruptsOn) := goodIn_app (goodIn_of _ (by decide +kernel)) ggX6_told_X4_hasInterruptsOn
set_option maxRecDepth 20000 in
theorem ggX6_told_X4_wantedInterrupt : GoodIn wsX6_told wsX4_wantedInterrupt := goodIn_r _ [19, 20, 42, 43, 44, 45, 46, 47, 48, 49, 50, 51, 52, 53, 54] (by decide +kernel) (by decide +kernel)
set_option maxRecDepth 20000 in
theorem gX6_told_X4_wantedInterrupt : GoodIn wsX6_told (wsV RX6 106 RX4 yX4_wantedInterrupt wsX4_wantedInterrupt) := goodIn_app (goodIn_of _ (by decide +kernel)) ggX6_told_X4_wantedInterrupt
set_option maxRecDepth 20000 in
theorem ggX6_told_X2_stateByte : GoodIn wsX6_told wsX2_stateByte := goodIn_r _ [25, 26, 55, 56, 57, 58, 59, 60, 61, 62, 63, 64, 65] (by decide +kernel) (by decide +kernel)
set_option maxRecDepth 20000 in
theorem gX6_told_X2_stateByte : GoodIn wsX6_told (wsV RX6 109 RX2 yX2_stateByte wsX2_stateByte) := goodIn_app (goodIn_of _ (by decide +kernel)) ggX6_told_X2_stateByte
set_option maxRecDepth 20000 in
theorem ggX6_told_X2_movedCount : GoodIn wsX6_told wsX2_movedCount := goodIn_r _ [30, 31, 55, 56, 57, 58, 59, 60, 61, 62, 63, 64, 65] (by decide +kernel) (by decide +kernel)
set_option maxRecDepth 20000 in
theorem gX6_told_X2_movedCount : GoodIn wsX6_told (wsV RX6 112 RX2 yX2_movedCount wsX2_movedCount) := goodIn_app (goodIn_of _ (by decide +kernel)) ggX6_told_X2_movedCount
set_option maxRecDepth 20000 in
theorem ggX6_told_X2_addressWord : GoodIn wsX6_told wsX2_addressWord := goodIn_r _ [35, 36, 55, 56, 57, 58, 59, 60, 61, 62, 63, 64, 65] (by decide +kernel) (by decide +kernel)
set_option maxRecDepth 20000 in
theorem gX6_told_X2_addressWord : GoodIn wsX6_told (wsV RX6 115 RX2 yX2_addressWord wsX2_addressWord) := goodIn_app (goodIn_of _ (by decide +kernel)) ggX6_told_X2_addressWord
theorem dX6_told_0 : decode cX6_told 0 = .ok (.iload_n 1, 1) := by decide +kernel
theorem dX6_told_1 : decode cX6_told 1 = .ok (.tableswitch 103 0 5 #[39, 55, 71, 79, 87, 95], 39) := by decide +kernel
theorem dX6_told_40 : decode cX6_told 40 = .ok (.aload_n 0, 1) := by decide +kernel
theorem dX6_told_41 : decode cX6_told 41 = .ok (.getfield 40, 3) := by decide +kernel
theorem dX6_told_44 : decode cX6_told 44 = .ok (.invokevirtual 99, 3) := by decide +kernel
theorem dX6_told_47 : decode cX6_told 47 = .ok (.ifCond .eq 7, 3) := by decide +kernel
theorem dX6_told_50 : decode cX6_told 50 = .ok (.iconst 1, 1) := by decide +kernel
theorem dX6_told_51 : decode cX6_told 51 = .ok (.goto 4, 3) := by decide +kernel
theorem dX6_told_54 : decode cX6_told 54 = .ok (.iconst 0, 1) := by decide +kernel
theorem dX6_told_55 : decode cX6_told 55 = .ok (.ireturn, 1) := by decide +kernel
theorem dX6_told_56 : decode cX6_told 56 = .ok (.aload_n 0, 1) := by decide +kernel
theorem dX6_told_57 : decode cX6_told 57 = .ok (.getfield 40, 3) := by decide +kernel
theorem dX6_told_60 : decode cX6_told 60 = .ok (.invokevirtual 103, 3) := by decide +kernel
theorem dX6_told_63 : decode cX6_told 63 = .ok (.ifCond .eq 7, 3) := by decide +kernel
theorem dX6_told_66 : decode cX6_told 66 = .ok (.iconst 1, 1) := by decide +kernel
theorem dX6_told_67 : decode cX6_told 67 = .ok (.goto 4, 3) := by decide +kernel
theorem dX6_told_70 : decode cX6_told 70 = .ok (.iconst 0, 1) := by decide +kernel
theorem dX6_told_71 : decode cX6_told 71 = .ok (.ireturn, 1) := by decide +kernel
theorem dX6_told_72 : decode cX6_told 72 = .ok (.aload_n 0, 1) := by decide +kernel
theorem dX6_told_73 : decode cX6_told 73 = .ok (.getfield 40, 3) := by decide +kernel
theorem dX6_told_76 : decode cX6_told 76 = .ok (.invokevirtual 106, 3) := by decide +kernel
theorem dX6_told_79 : decode cX6_told 79 = .ok (.ireturn, 1) := by decide +kernel
theorem dX6_told_80 : decode cX6_told 80 = .ok (.aload_n 0, 1) := by decide +kernel
theorem dX6_told_81 : decode cX6_told 81 = .ok (.getfield 31, 3) := by decide +kernel
theorem dX6_told_84 : decode cX6_told 84 = .ok (.invokevirtual 109, 3) := by decide +kernel
theorem dX6_told_87 : decode cX6_told 87 = .ok (.ireturn, 1) := by decide +kernel
theorem dX6_told_88 : decode cX6_told 88 = .ok (.aload_n 0, 1) := by decide +kernel
theorem dX6_told_89 : decode cX6_told 89 = .ok (.getfield 31, 3) := by decide +kernel
theorem dX6_told_92 : decode cX6_told 92 = .ok (.invokevirtual 112, 3) := by decide +kernel
theorem dX6_told_95 : decode cX6_told 95 = .ok (.ireturn, 1) := by decide +kernel
theorem dX6_told_96 : decode cX6_told 96 = .ok (.aload_n 0, 1) := by decide +kernel
theorem dX6_told_97 : decode cX6_told 97 = .ok (.getfield 31, 3) := by decide +kernel
theorem dX6_told_100 : decode cX6_told 100 = .ok (.invokevirtual 115, 3) := by decide +kernel
theorem dX6_told_103 : decode cX6_told 103 = .ok (.ireturn, 1) := by decide +kernel
theorem dX6_told_104 : decode cX6_told 104 = .ok (.new 51, 3) := by decide +kernel
theorem dX6_told_107 : decode cX6_told 107 = .ok (.dup, 1) := by decide +kernel
theorem dX6_told_108 : decode cX6_told 108 = .ok (.invokespecial 53, 3) := by decide +kernel
theorem dX6_told_111 : decode cX6_told 111 = .ok (.athrow, 1) := by decide +kernel
set_option maxRecDepth 20000 in
theorem ggX6_sum_X5_weighedTotal : GoodIn wsX6_sum wsX5_weighedTotal := goodIn_r _ [6, 7, 13] (by decide +kernel) (by decide +kernel)
set_option maxRecDepth 20000 in
theorem gX6_sum_X5_weighedTotal : GoodIn wsX6_sum (wsV RX6 118 RX5 yX5_weighedTotal wsX5_weighedTotal) := goodIn_app (goodIn_of _ (by decide +kernel)) ggX6_sum_X5_weighedTotal
theorem dX6_sum_0 : decode cX6_sum 0 = .ok (.aload_n 0, 1) := by decide +kernel
theorem dX6_sum_1 : decode cX6_sum 1 = .ok (.getfield 10, 3) := by decide +kernel
theorem dX6_sum_4 : decode cX6_sum 4 = .ok (.invokevirtual 118, 3) := by decide +kernel
theorem dX6_sum_7 : decode cX6_sum 7 = .ok (.ireturn, 1) := by decide +kernel
theorem dX6_isPlace_0 : decode cX6_isPlace 0 = .ok (.iload_n 0, 1) := by decide +kernel
theorem dX6_isPlace_1 : decode cX6_isPlace 1 = .ok (.ifCond .lt 14, 3) := by decide +kernel
theorem dX6_isPlace_4 : decode cX6_isPlace 4 = .ok (.iload_n 0, 1) := by decide +kernel
theorem dX6_isPlace_5 : decode cX6_isPlace 5 = .ok (.sipush 4096, 3) := by decide +kernel
theorem dX6_isPlace_8 : decode cX6_isPlace 8 = .ok (.if_icmp .ge 7, 3) := by decide +kernel
theorem dX6_isPlace_11 : decode cX6_isPlace 11 = .ok (.iconst 1, 1) := by decide +kernel
theorem dX6_isPlace_12 : decode cX6_isPlace 12 = .ok (.goto 4, 3) := by decide +kernel
theorem dX6_isPlace_15 : decode cX6_isPlace 15 = .ok (.iconst 0, 1) := by decide +kernel
theorem dX6_isPlace_16 : decode cX6_isPlace 16 = .ok (.ireturn, 1) := by decide +kernel
theorem dX6_isByte_0 : decode cX6_isByte 0 = .ok (.iload_n 0, 1) := by decide +kernel
theorem dX6_isByte_1 : decode cX6_isByte 1 = .ok (.ifCond .lt 14, 3) := by decide +kernel
theorem dX6_isByte_4 : decode cX6_isByte 4 = .ok (.iload_n 0, 1) := by decide +kernel
theorem dX6_isByte_5 : decode cX6_isByte 5 = .ok (.sipush 255, 3) := by decide +kernel
theorem dX6_isByte_8 : decode cX6_isByte 8 = .ok (.if_icmp .gt 7, 3) := by decide +kernel
