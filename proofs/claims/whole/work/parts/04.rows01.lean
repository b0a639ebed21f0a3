theorem dX1_nextInput_25 : decode cX1_nextInput 25 = .ok (.iadd, 1) := by decide +kernel
theorem dX1_nextInput_26 : decode cX1_nextInput 26 = .ok (.bipush 64, 2) := by decide +kernel
theorem dX1_nextInput_28 : decode cX1_nextInput 28 = .ok (.irem, 1) := by decide +kernel
theorem dX1_nextInput_29 : decode cX1_nextInput 29 = .ok (.putfield 22, 3) := by decide +kernel
theorem dX1_nextInput_32 : decode cX1_nextInput 32 = .ok (.aload_n 0, 1) := by decide +kernel
theorem dX1_nextInput_33 : decode cX1_nextInput 33 = .ok (.dup, 1) := by decide +kernel
theorem dX1_nextInput_34 : decode cX1_nextInput 34 = .ok (.getfield 18, 3) := by decide +kernel
theorem dX1_nextInput_37 : decode cX1_nextInput 37 = .ok (.iconst 1, 1) := by decide +kernel
theorem dX1_nextInput_38 : decode cX1_nextInput 38 = .ok (.isub, 1) := by decide +kernel
theorem dX1_nextInput_39 : decode cX1_nextInput 39 = .ok (.putfield 18, 3) := by decide +kernel
theorem dX1_nextInput_42 : decode cX1_nextInput 42 = .ok (.iload_n 1, 1) := by decide +kernel
theorem dX1_nextInput_43 : decode cX1_nextInput 43 = .ok (.ireturn, 1) := by decide +kernel
theorem dX1_append_0 : decode cX1_append 0 = .ok (.aload_n 0, 1) := by decide +kernel
theorem dX1_append_1 : decode cX1_append 1 = .ok (.getfield 15, 3) := by decide +kernel
theorem dX1_append_4 : decode cX1_append 4 = .ok (.aload_n 0, 1) := by decide +kernel
theorem dX1_append_5 : decode cX1_append 5 = .ok (.getfield 25, 3) := by decide +kernel
theorem dX1_append_8 : decode cX1_append 8 = .ok (.sipush 255, 3) := by decide +kernel
theorem dX1_append_11 : decode cX1_append 11 = .ok (.iand, 1) := by decide +kernel
theorem dX1_append_12 : decode cX1_append 12 = .ok (.iload_n 1, 1) := by decide +kernel
theorem dX1_append_13 : decode cX1_append 13 = .ok (.iastore, 1) := by decide +kernel
theorem dX1_append_14 : decode cX1_append 14 = .ok (.aload_n 0, 1) := by decide +kernel
theorem dX1_append_15 : decode cX1_append 15 = .ok (.dup, 1) := by decide +kernel
theorem dX1_append_16 : decode cX1_append 16 = .ok (.getfield 25, 3) := by decide +kernel
theorem dX1_append_19 : decode cX1_append 19 = .ok (.iconst 1, 1) := by decide +kernel
theorem dX1_append_20 : decode cX1_append 20 = .ok (.iadd, 1) := by decide +kernel
theorem dX1_append_21 : decode cX1_append 21 = .ok (.putfield 25, 3) := by decide +kernel
theorem dX1_append_24 : decode cX1_append 24 = .ok (.return_, 1) := by decide +kernel
theorem dX1_writtenCount_0 : decode cX1_writtenCount 0 = .ok (.aload_n 0, 1) := by decide +kernel
theorem dX1_writtenCount_1 : decode cX1_writtenCount 1 = .ok (.getfield 25, 3) := by decide +kernel
theorem dX1_writtenCount_4 : decode cX1_writtenCount 4 = .ok (.ireturn, 1) := by decide +kernel
theorem dX1_keeps_0 : decode cX1_keeps 0 = .ok (.iload_n 1, 1) := by decide +kernel
theorem dX1_keeps_1 : decode cX1_keeps 1 = .ok (.ifCond .lt 27, 3) := by decide +kernel
theorem dX1_keeps_4 : decode cX1_keeps 4 = .ok (.iload_n 1, 1) := by decide +kernel
theorem dX1_keeps_5 : decode cX1_keeps 5 = .ok (.aload_n 0, 1) := by decide +kernel
theorem dX1_keeps_6 : decode cX1_keeps 6 = .ok (.getfield 25, 3) := by decide +kernel
theorem dX1_keeps_9 : decode cX1_keeps 9 = .ok (.if_icmp .ge 19, 3) := by decide +kernel
theorem dX1_keeps_12 : decode cX1_keeps 12 = .ok (.iload_n 1, 1) := by decide +kernel
theorem dX1_keeps_13 : decode cX1_keeps 13 = .ok (.aload_n 0, 1) := by decide +kernel
theorem dX1_keeps_14 : decode cX1_keeps 14 = .ok (.getfield 25, 3) := by decide +kernel
theorem dX1_keeps_17 : decode cX1_keeps 17 = .ok (.sipush 256, 3) := by decide +kernel
theorem dX1_keeps_20 : decode cX1_keeps 20 = .ok (.isub, 1) := by decide +kernel
theorem dX1_keeps_21 : decode cX1_keeps 21 = .ok (.if_icmp .lt 7, 3) := by decide +kernel
theorem dX1_keeps_24 : decode cX1_keeps 24 = .ok (.iconst 1, 1) := by decide +kernel
theorem dX1_keeps_25 : decode cX1_keeps 25 = .ok (.goto 4, 3) := by decide +kernel
theorem dX1_keeps_28 : decode cX1_keeps 28 = .ok (.iconst 0, 1) := by decide +kernel
theorem dX1_keeps_29 : decode cX1_keeps 29 = .ok (.ireturn, 1) := by decide +kernel
theorem dX1_writtenByte_0 : decode cX1_writtenByte 0 = .ok (.aload_n 0, 1) := by decide +kernel
theorem dX1_writtenByte_1 : decode cX1_writtenByte 1 = .ok (.getfield 15, 3) := by decide +kernel
theorem dX1_writtenByte_4 : decode cX1_writtenByte 4 = .ok (.iload_n 1, 1) := by decide +kernel
theorem dX1_writtenByte_5 : decode cX1_writtenByte 5 = .ok (.sipush 255, 3) := by decide +kernel
theorem dX1_writtenByte_8 : decode cX1_writtenByte 8 = .ok (.iand, 1) := by decide +kernel
theorem dX1_writtenByte_9 : decode cX1_writtenByte 9 = .ok (.iaload, 1) := by decide +kernel
theorem dX1_writtenByte_10 : decode cX1_writtenByte 10 = .ok (.ireturn, 1) := by decide +kernel
theorem dX2_init_0 : decode cX2_init 0 = .ok (.aload_n 0, 1) := by decide +kernel
theorem dX2_init_1 : decode cX2_init 1 = .ok (.invokespecial 3, 3) := by decide +kernel
theorem dX2_init_4 : decode cX2_init 4 = .ok (.aload_n 0, 1) := by decide +kernel
theorem dX2_init_5 : decode cX2_init 5 = .ok (.aload_n 1, 1) := by decide +kernel
theorem dX2_init_6 : decode cX2_init 6 = .ok (.putfield 9, 3) := by decide +kernel
theorem dX2_init_9 : decode cX2_init 9 = .ok (.aload_n 0, 1) := by decide +kernel
theorem dX2_init_10 : decode cX2_init 10 = .ok (.aload_n 2, 1) := by decide +kernel
theorem dX2_init_11 : decode cX2_init 11 = .ok (.putfield 15, 3) := by decide +kernel
theorem dX2_init_14 : decode cX2_init 14 = .ok (.return_, 1) := by decide +kernel
theorem dX2_setSector_0 : decode cX2_setSector 0 = .ok (.aload_n 0, 1) := by decide +kernel
theorem dX2_setSector_1 : decode cX2_setSector 1 = .ok (.iload_n 1, 1) := by decide +kernel
theorem dX2_setSector_2 : decode cX2_setSector 2 = .ok (.putfield 18, 3) := by decide +kernel
theorem dX2_setSector_5 : decode cX2_setSector 5 = .ok (.return_, 1) := by decide +kernel
theorem dX2_setLowAddress_0 : decode cX2_setLowAddress 0 = .ok (.aload_n 0, 1) := by decide +kernel
theorem dX2_setLowAddress_1 : decode cX2_setLowAddress 1 = .ok (.aload_n 0, 1) := by decide +kernel
theorem dX2_setLowAddress_2 : decode cX2_setLowAddress 2 = .ok (.getfield 22, 3) := by decide +kernel
theorem dX2_setLowAddress_5 : decode cX2_setLowAddress 5 = .ok (.ldc 25, 2) := by decide +kernel
theorem dX2_setLowAddress_7 : decode cX2_setLowAddress 7 = .ok (.iand, 1) := by decide +kernel
theorem dX2_setLowAddress_8 : decode cX2_setLowAddress 8 = .ok (.iload_n 1, 1) := by decide +kernel
theorem dX2_setLowAddress_9 : decode cX2_setLowAddress 9 = .ok (.ior, 1) := by decide +kernel
theorem dX2_setLowAddress_10 : decode cX2_setLowAddress 10 = .ok (.putfield 22, 3) := by decide +kernel
theorem dX2_setLowAddress_13 : decode cX2_setLowAddress 13 = .ok (.return_, 1) := by decide +kernel
theorem dX2_setHighAddress_0 : decode cX2_setHighAddress 0 = .ok (.aload_n 0, 1) := by decide +kernel
theorem dX2_setHighAddress_1 : decode cX2_setHighAddress 1 = .ok (.aload_n 0, 1) := by decide +kernel
theorem dX2_setHighAddress_2 : decode cX2_setHighAddress 2 = .ok (.getfield 22, 3) := by decide +kernel
theorem dX2_setHighAddress_5 : decode cX2_setHighAddress 5 = .ok (.sipush 255, 3) := by decide +kernel
theorem dX2_setHighAddress_8 : decode cX2_setHighAddress 8 = .ok (.iand, 1) := by decide +kernel
theorem dX2_setHighAddress_9 : decode cX2_setHighAddress 9 = .ok (.iload_n 1, 1) := by decide +kernel
theorem dX2_setHighAddress_10 : decode cX2_setHighAddress 10 = .ok (.bipush 8, 2) := by decide +kernel
theorem dX2_setHighAddress_12 : decode cX2_setHighAddress 12 = .ok (.ishl, 1) := by decide +kernel
theorem dX2_setHighAddress_13 : decode cX2_setHighAddress 13 = .ok (.ior, 1) := by decide +kernel
theorem dX2_setHighAddress_14 : decode cX2_setHighAddress 14 = .ok (.putfield 22, 3) := by decide +kernel
theorem dX2_setHighAddress_17 : decode cX2_setHighAddress 17 = .ok (.return_, 1) := by decide +kernel
theorem dX2_setCall_0 : decode cX2_setCall 0 = .ok (.aload_n 0, 1) := by decide +kernel
theorem dX2_setCall_1 : decode cX2_setCall 1 = .ok (.iload_n 1, 1) := by decide +kernel
theorem dX2_setCall_2 : decode cX2_setCall 2 = .ok (.putfield 26, 3) := by decide +kernel
theorem dX2_setCall_5 : decode cX2_setCall 5 = .ok (.return_, 1) := by decide +kernel
set_option maxRecDepth 20000 in
theorem ggX2_command_X2_isBusy : GoodIn wsX2_command wsX2_isBusy := goodIn_r _ [12, 2, 13, 14, 15, 16, 17, 18, 19, 20, 21, 22, 23] (by decide +kernel) (by decide +kernel)
set_option maxRecDepth 20000 in
theorem gX2_command_X2_isBusy : GoodIn wsX2_command (wsV RX2 29 RX2 yX2_isBusy wsX2_isBusy) := goodIn_app (goodIn_of _ (by decide +kernel)) ggX2_command_X2_isBusy
theorem dX2_command_0 : decode cX2_command 0 = .ok (.iload_n 1, 1) := by decide +kernel
theorem dX2_command_1 : decode cX2_command 1 = .ok (.iconst 1, 1) := by decide +kernel
theorem dX2_command_2 : decode cX2_command 2 = .ok (.if_icmp .eq 8, 3) := by decide +kernel
theorem dX2_command_5 : decode cX2_command 5 = .ok (.iload_n 1, 1) := by decide +kernel
theorem dX2_command_6 : decode cX2_command 6 = .ok (.iconst 2, 1) := by decide +kernel
theorem dX2_command_7 : decode cX2_command 7 = .ok (.if_icmp .ne 7, 3) := by decide +kernel
theorem dX2_command_10 : decode cX2_command 10 = .ok (.iconst 1, 1) := by decide +kernel
theorem dX2_command_11 : decode cX2_command 11 = .ok (.goto 4, 3) := by decide +kernel
theorem dX2_command_14 : decode cX2_command 14 = .ok (.iconst 0, 1) := by decide +kernel
theorem dX2_command_15 : decode cX2_command 15 = .ok (.istore_n 2, 1) := by decide +kernel
theorem dX2_command_16 : decode cX2_command 16 = .ok (.aload_n 0, 1) := by decide +kernel
theorem dX2_command_17 : decode cX2_command 17 = .ok (.invokevirtual 29, 3) := by decide +kernel
theorem dX2_command_20 : decode cX2_command 20 = .ok (.ifCond .ne 16, 3) := by decide +kernel
theorem dX2_command_23 : decode cX2_command 23 = .ok (.iload_n 2, 1) := by decide +kernel
theorem dX2_command_24 : decode cX2_command 24 = .ok (.ifCond .eq 12, 3) := by decide +kernel
theorem dX2_command_27 : decode cX2_command 27 = .ok (.aload_n 0, 1) := by decide +kernel
theorem dX2_command_28 : decode cX2_command 28 = .ok (.getfield 18, 3) := by decide +kernel
theorem dX2_command_31 : decode cX2_command 31 = .ok (.bipush 64, 2) := by decide +kernel
theorem dX2_command_33 : decode cX2_command 33 = .ok (.if_icmp .lt 14, 3) := by decide +kernel
theorem dX2_command_36 : decode cX2_command 36 = .ok (.aload_n 0, 1) := by decide +kernel
theorem dX2_command_37 : decode cX2_command 37 = .ok (.dup, 1) := by decide +kernel
theorem dX2_command_38 : decode cX2_command 38 = .ok (.getfield 33, 3) := by decide +kernel
theorem dX2_command_41 : decode cX2_command 41 = .ok (.iconst 4, 1) := by decide +kernel
theorem dX2_command_42 : decode cX2_command 42 = .ok (.ior, 1) := by decide +kernel
theorem dX2_command_43 : decode cX2_command 43 = .ok (.putfield 33, 3) := by decide +kernel
theorem dX2_command_46 : decode cX2_command 46 = .ok (.return_, 1) := by decide +kernel
theorem dX2_command_47 : decode cX2_command 47 = .ok (.aload_n 0, 1) := by decide +kernel
theorem dX2_command_48 : decode cX2_command 48 = .ok (.dup, 1) := by decide +kernel
theorem dX2_command_49 : decode cX2_command 49 = .ok (.getfield 33, 3) := by decide +kernel
theorem dX2_command_52 : decode cX2_command 52 = .ok (.iconst 1, 1) := by decide +kernel
theorem dX2_command_53 : decode cX2_command 53 = .ok (.ior, 1) := by decide +kernel
theorem dX2_command_54 : decode cX2_command 54 = .ok (.putfield 33, 3) := by decide +kernel
theorem dX2_command_57 : decode cX2_command 57 = .ok (.aload_n 0, 1) := by decide +kernel
theorem dX2_command_58 : decode cX2_command 58 = .ok (.aload_n 0, 1) := by decide +kernel
theorem dX2_command_59 : decode cX2_command 59 = .ok (.getfield 18, 3) := by decide +kernel
theorem dX2_command_62 : decode cX2_command 62 = .ok (.bipush 64, 2) := by decide +kernel
theorem dX2_command_64 : decode cX2_command 64 = .ok (.imul, 1) := by decide +kernel
theorem dX2_command_65 : decode cX2_command 65 = .ok (.putfield 36, 3) := by decide +kernel
theorem dX2_command_68 : decode cX2_command 68 = .ok (.aload_n 0, 1) := by decide +kernel
theorem dX2_command_69 : decode cX2_command 69 = .ok (.iload_n 1, 1) := by decide +kernel
theorem dX2_command_70 : decode cX2_command 70 = .ok (.iconst 2, 1) := by decide +kernel
theorem dX2_command_71 : decode cX2_command 71 = .ok (.if_icmp .ne 7, 3) := by decide +kernel
theorem dX2_command_74 : decode cX2_command 74 = .ok (.iconst 1, 1) := by decide +kernel
theorem dX2_command_75 : decode cX2_command 75 = .ok (.goto 4, 3) := by decide +kernel
theorem dX2_command_78 : decode cX2_command 78 = .ok (.iconst 0, 1) := by decide +kernel
theorem dX2_command_79 : decode cX2_command 79 = .ok (.putfield 39, 3) := by decide +kernel
theorem dX2_command_82 : decode cX2_command 82 = .ok (.aload_n 0, 1) := by decide +kernel
theorem dX2_command_83 : decode cX2_command 83 = .ok (.iconst 0, 1) := by decide +kernel
theorem dX2_command_84 : decode cX2_command 84 = .ok (.putfield 43, 3) := by decide +kernel
theorem dX2_command_87 : decode cX2_command 87 = .ok (.aload_n 0, 1) := by decide +kernel
theorem dX2_command_88 : decode cX2_command 88 = .ok (.iconst 0, 1) := by decide +kernel
theorem dX2_command_89 : decode cX2_command 89 = .ok (.putfield 46, 3) := by decide +kernel
theorem dX2_command_92 : decode cX2_command 92 = .ok (.aload_n 0, 1) := by decide +kernel
theorem dX2_command_93 : decode cX2_command 93 = .ok (.iconst 1, 1) := by decide +kernel
theorem dX2_command_94 : decode cX2_command 94 = .ok (.putfield 49, 3) := by decide +kernel
theorem dX2_command_97 : decode cX2_command 97 = .ok (.return_, 1) := by decide +kernel
theorem dX2_takeState_0 : decode cX2_takeState 0 = .ok (.aload_n 0, 1) := by decide +kernel
theorem dX2_takeState_1 : decode cX2_takeState 1 = .ok (.getfield 33, 3) := by decide +kernel
theorem dX2_takeState_4 : decode cX2_takeState 4 = .ok (.istore_n 1, 1) := by decide +kernel
theorem dX2_takeState_5 : decode cX2_takeState 5 = .ok (.aload_n 0, 1) := by decide +kernel
theorem dX2_takeState_6 : decode cX2_takeState 6 = .ok (.dup, 1) := by decide +kernel
theorem dX2_takeState_7 : decode cX2_takeState 7 = .ok (.getfield 33, 3) := by decide +kernel
theorem dX2_takeState_10 : decode cX2_takeState 10 = .ok (.iconst 1, 1) := by decide +kernel
theorem dX2_takeState_11 : decode cX2_takeState 11 = .ok (.iand, 1) := by decide +kernel
theorem dX2_takeState_12 : decode cX2_takeState 12 = .ok (.putfield 33, 3) := by decide +kernel
theorem dX2_takeState_15 : decode cX2_takeState 15 = .ok (.iload_n 1, 1) := by decide +kernel
theorem dX2_takeState_16 : decode cX2_takeState 16 = .ok (.ireturn, 1) := by decide +kernel
set_option maxRecDepth 20000 in
theorem ggX2_letPass_X2_isBusy : GoodIn wsX2_letPass wsX2_isBusy := goodIn_r _ [8, 9, 35, 36, 37, 38, 39, 40, 41, 42, 43, 44, 45] (by decide +kernel) (by decide +kernel)
set_option maxRecDepth 20000 in
theorem gX2_letPass_X2_isBusy : GoodIn wsX2_letPass (wsV RX2 29 RX2 yX2_isBusy wsX2_isBusy) := goodIn_app (goodIn_of _ (by decide +kernel)) ggX2_letPass_X2_isBusy
set_option maxRecDepth 20000 in
theorem ggX2_letPass_X2_moveByte : GoodIn wsX2_letPass wsX2_moveByte := goodIn_r _ [13, 14, 3, 15, 16, 17, 18, 19, 20, 21, 22, 23, 24, 25, 26, 27, 28, 29, 35, 36, 37, 38, 39, 40, 41, 42, 43, 44, 45, 46] (by decide +kernel) (by decide +kernel)
set_option maxRecDepth 20000 in
theorem gX2_letPass_X2_moveByte : GoodIn wsX2_letPass (wsV RX2 52 RX2 yX2_moveByte wsX2_moveByte) := goodIn_app (goodIn_of _ (by decide +kernel)) ggX2_letPass_X2_moveByte
set_option maxRecDepth 20000 in
theorem ggX2_letPass_X2_finish : GoodIn wsX2_letPass wsX2_finish := goodIn_r _ [33, 9, 34, 35, 36, 37, 38, 39, 40, 41, 42, 43, 44, 45] (by decide +kernel) (by decide +kernel)
set_option maxRecDepth 20000 in
theorem gX2_letPass_X2_finish : GoodIn wsX2_letPass (wsV RX2 55 RX2 yX2_finish wsX2_finish) := goodIn_app (goodIn_of _ (by decide +kernel)) ggX2_letPass_X2_finish
theorem dX2_letPass_0 : decode cX2_letPass 0 = .ok (.aload_n 0, 1) := by decide +kernel
theorem dX2_letPass_1 : decode cX2_letPass 1 = .ok (.invokevirtual 29, 3) := by decide +kernel
theorem dX2_letPass_4 : decode cX2_letPass 4 = .ok (.ifCond .ne 5, 3) := by decide +kernel
theorem dX2_letPass_7 : decode cX2_letPass 7 = .ok (.iconst (-1), 1) := by decide +kernel
theorem dX2_letPass_8 : decode cX2_letPass 8 = .ok (.ireturn, 1) := by decide +kernel
theorem dX2_letPass_9 : decode cX2_letPass 9 = .ok (.aload_n 0, 1) := by decide +kernel
theorem dX2_letPass_10 : decode cX2_letPass 10 = .ok (.getfield 49, 3) := by decide +kernel
theorem dX2_letPass_13 : decode cX2_letPass 13 = .ok (.ifCond .eq 10, 3) := by decide +kernel
theorem dX2_letPass_16 : decode cX2_letPass 16 = .ok (.aload_n 0, 1) := by decide +kernel
theorem dX2_letPass_17 : decode cX2_letPass 17 = .ok (.iconst 0, 1) := by decide +kernel
theorem dX2_letPass_18 : decode cX2_letPass 18 = .ok (.putfield 49, 3) := by decide +kernel
theorem dX2_letPass_21 : decode cX2_letPass 21 = .ok (.iconst (-1), 1) := by decide +kernel
theorem dX2_letPass_22 : decode cX2_letPass 22 = .ok (.ireturn, 1) := by decide +kernel
theorem dX2_letPass_23 : decode cX2_letPass 23 = .ok (.aload_n 0, 1) := by decide +kernel
theorem dX2_letPass_24 : decode cX2_letPass 24 = .ok (.getfield 46, 3) := by decide +kernel
theorem dX2_letPass_27 : decode cX2_letPass 27 = .ok (.iload_n 1, 1) := by decide +kernel
theorem dX2_letPass_28 : decode cX2_letPass 28 = .ok (.iadd, 1) := by decide +kernel
theorem dX2_letPass_29 : decode cX2_letPass 29 = .ok (.istore_n 2, 1) := by decide +kernel
theorem dX2_letPass_30 : decode cX2_letPass 30 = .ok (.aload_n 0, 1) := by decide +kernel
theorem dX2_letPass_31 : decode cX2_letPass 31 = .ok (.iload_n 2, 1) := by decide +kernel
theorem dX2_letPass_32 : decode cX2_letPass 32 = .ok (.bipush 12, 2) := by decide +kernel
theorem dX2_letPass_34 : decode cX2_letPass 34 = .ok (.irem, 1) := by decide +kernel
theorem dX2_letPass_35 : decode cX2_letPass 35 = .ok (.putfield 46, 3) := by decide +kernel
theorem dX2_letPass_38 : decode cX2_letPass 38 = .ok (.iload_n 2, 1) := by decide +kernel
theorem dX2_letPass_39 : decode cX2_letPass 39 = .ok (.bipush 12, 2) := by decide +kernel
theorem dX2_letPass_41 : decode cX2_letPass 41 = .ok (.idiv, 1) := by decide +kernel
theorem dX2_letPass_42 : decode cX2_letPass 42 = .ok (.istore_n 3, 1) := by decide +kernel
theorem dX2_letPass_43 : decode cX2_letPass 43 = .ok (.iload_n 3, 1) := by decide +kernel
theorem dX2_letPass_44 : decode cX2_letPass 44 = .ok (.ifCond .le 22, 3) := by decide +kernel
theorem dX2_letPass_47 : decode cX2_letPass 47 = .ok (.aload_n 0, 1) := by decide +kernel
theorem dX2_letPass_48 : decode cX2_letPass 48 = .ok (.getfield 43, 3) := by decide +kernel
theorem dX2_letPass_51 : decode cX2_letPass 51 = .ok (.bipush 64, 2) := by decide +kernel
theorem dX2_letPass_53 : decode cX2_letPass 53 = .ok (.if_icmp .ge 13, 3) := by decide +kernel
theorem dX2_letPass_56 : decode cX2_letPass 56 = .ok (.aload_n 0, 1) := by decide +kernel
theorem dX2_letPass_57 : decode cX2_letPass 57 = .ok (.invokevirtual 52, 3) := by decide +kernel
theorem dX2_letPass_60 : decode cX2_letPass 60 = .ok (.iinc 3 (-1), 3) := by decide +kernel
theorem dX2_letPass_63 : decode cX2_letPass 63 = .ok (.goto (-20), 3) := by decide +kernel
theorem dX2_letPass_66 : decode cX2_letPass 66 = .ok (.aload_n 0, 1) := by decide +kernel
theorem dX2_letPass_67 : decode cX2_letPass 67 = .ok (.getfield 43, 3) := by decide +kernel
theorem dX2_letPass_70 : decode cX2_letPass 70 = .ok (.bipush 64, 2) := by decide +kernel
theorem dX2_letPass_72 : decode cX2_letPass 72 = .ok (.if_icmp .ge 7, 3) := by decide +kernel
theorem dX2_letPass_75 : decode cX2_letPass 75 = .ok (.iconst (-1), 1) := by decide +kernel
theorem dX2_letPass_76 : decode cX2_letPass 76 = .ok (.goto 7, 3) := by decide +kernel
theorem dX2_letPass_79 : decode cX2_letPass 79 = .ok (.aload_n 0, 1) := by decide +kernel
theorem dX2_letPass_80 : decode cX2_letPass 80 = .ok (.invokevirtual 55, 3) := by decide +kernel
theorem dX2_letPass_83 : decode cX2_letPass 83 = .ok (.ireturn, 1) := by decide +kernel
set_option maxRecDepth 20000 in
theorem ggX2_moveByte_X5_byteAt : GoodIn wsX2_moveByte wsX5_byteAt := goodIn_r _ [12, 13, 29] (by decide +kernel) (by decide +kernel)
set_option maxRecDepth 20000 in
theorem gX2_moveByte_X5_byteAt : GoodIn wsX2_moveByte (wsV RX2 59 RX5 yX5_byteAt wsX5_byteAt) := goodIn_app (goodIn_of _ (by decide +kernel)) ggX2_moveByte_X5_byteAt
set_option maxRecDepth 20000 in
theorem ggX2_moveByte_X5_setByte : GoodIn wsX2_moveByte wsX5_setByte := goodIn_r _ [17, 13, 29] (by decide +kernel) (by decide +kernel)
set_option maxRecDepth 20000 in
theorem gX2_moveByte_X5_setByte : GoodIn wsX2_moveByte (wsV RX2 65 RX5 yX5_setByte wsX5_setByte) := goodIn_app (goodIn_of _ (by decide +kernel)) ggX2_moveByte_X5_setByte
theorem dX2_moveByte_0 : decode cX2_moveByte 0 = .ok (.aload_n 0, 1) := by decide +kernel
theorem dX2_moveByte_1 : decode cX2_moveByte 1 = .ok (.getfield 36, 3) := by decide +kernel
theorem dX2_moveByte_4 : decode cX2_moveByte 4 = .ok (.aload_n 0, 1) := by decide +kernel
theorem dX2_moveByte_5 : decode cX2_moveByte 5 = .ok (.getfield 43, 3) := by decide +kernel
theorem dX2_moveByte_8 : decode cX2_moveByte 8 = .ok (.iadd, 1) := by decide +kernel
theorem dX2_moveByte_9 : decode cX2_moveByte 9 = .ok (.istore_n 1, 1) := by decide +kernel
theorem dX2_moveByte_10 : decode cX2_moveByte 10 = .ok (.aload_n 0, 1) := by decide +kernel
theorem dX2_moveByte_11 : decode cX2_moveByte 11 = .ok (.getfield 39, 3) := by decide +kernel
theorem dX2_moveByte_14 : decode cX2_moveByte 14 = .ok (.ifCond .eq 25, 3) := by decide +kernel
theorem dX2_moveByte_17 : decode cX2_moveByte 17 = .ok (.aload_n 0, 1) := by decide +kernel
theorem dX2_moveByte_18 : decode cX2_moveByte 18 = .ok (.getfield 15, 3) := by decide +kernel
theorem dX2_moveByte_21 : decode cX2_moveByte 21 = .ok (.iload_n 1, 1) := by decide +kernel
theorem dX2_moveByte_22 : decode cX2_moveByte 22 = .ok (.aload_n 0, 1) := by decide +kernel
theorem dX2_moveByte_23 : decode cX2_moveByte 23 = .ok (.getfield 9, 3) := by decide +kernel
theorem dX2_moveByte_26 : decode cX2_moveByte 26 = .ok (.aload_n 0, 1) := by decide +kernel
theorem dX2_moveByte_27 : decode cX2_moveByte 27 = .ok (.getfield 22, 3) := by decide +kernel
theorem dX2_moveByte_30 : decode cX2_moveByte 30 = .ok (.invokevirtual 59, 3) := by decide +kernel
theorem dX2_moveByte_33 : decode cX2_moveByte 33 = .ok (.invokevirtual 65, 3) := by decide +kernel
theorem dX2_moveByte_36 : decode cX2_moveByte 36 = .ok (.goto 22, 3) := by decide +kernel
theorem dX2_moveByte_39 : decode cX2_moveByte 39 = .ok (.aload_n 0, 1) := by decide +kernel
theorem dX2_moveByte_40 : decode cX2_moveByte 40 = .ok (.getfield 9, 3) := by decide +kernel
theorem dX2_moveByte_43 : decode cX2_moveByte 43 = .ok (.aload_n 0, 1) := by decide +kernel
theorem dX2_moveByte_44 : decode cX2_moveByte 44 = .ok (.getfield 22, 3) := by decide +kernel
theorem dX2_moveByte_47 : decode cX2_moveByte 47 = .ok (.aload_n 0, 1) := by decide +kernel
theorem dX2_moveByte_48 : decode cX2_moveByte 48 = .ok (.getfield 15, 3) := by decide +kernel
theorem dX2_moveByte_51 : decode cX2_moveByte 51 = .ok (.iload_n 1, 1) := by decide +kernel
theorem dX2_moveByte_52 : decode cX2_moveByte 52 = .ok (.invokevirtual 59, 3) := by decide +kernel
theorem dX2_moveByte_55 : decode cX2_moveByte 55 = .ok (.invokevirtual 65, 3) := by decide +kernel
theorem dX2_moveByte_58 : decode cX2_moveByte 58 = .ok (.aload_n 0, 1) := by decide +kernel
theorem dX2_moveByte_59 : decode cX2_moveByte 59 = .ok (.aload_n 0, 1) := by decide +kernel
theorem dX2_moveByte_60 : decode cX2_moveByte 60 = .ok (.getfield 22, 3) := by decide +kernel
theorem dX2_moveByte_63 : decode cX2_moveByte 63 = .ok (.iconst 1, 1) := by decide +kernel
theorem dX2_moveByte_64 : decode cX2_moveByte 64 = .ok (.iadd, 1) := by decide +kernel
theorem dX2_moveByte_65 : decode cX2_moveByte 65 = .ok (.ldc 69, 2) := by decide +kernel
theorem dX2_moveByte_67 : decode cX2_moveByte 67 = .ok (.iand, 1) := by decide +kernel
theorem dX2_moveByte_68 : decode cX2_moveByte 68 = .ok (.putfield 22, 3) := by decide +kernel
theorem dX2_moveByte_71 : decode cX2_moveByte 71 = .ok (.aload_n 0, 1) := by decide +kernel
theorem dX2_moveByte_72 : decode cX2_moveByte 72 = .ok (.dup, 1) := by decide +kernel
theorem dX2_moveByte_73 : decode cX2_moveByte 73 = .ok (.getfield 43, 3) := by decide +kernel
theorem dX2_moveByte_76 : decode cX2_moveByte 76 = .ok (.iconst 1, 1) := by decide +kernel
theorem dX2_moveByte_77 : decode cX2_moveByte 77 = .ok (.iadd, 1) := by decide +kernel
theorem dX2_moveByte_78 : decode cX2_moveByte 78 = .ok (.putfield 43, 3) := by decide +kernel
theorem dX2_moveByte_81 : decode cX2_moveByte 81 = .ok (.return_, 1) := by decide +kernel
theorem dX2_finish_0 : decode cX2_finish 0 = .ok (.aload_n 0, 1) := by decide +kernel
theorem dX2_finish_1 : decode cX2_finish 1 = .ok (.aload_n 0, 1) := by decide +kernel
theorem dX2_finish_2 : decode cX2_finish 2 = .ok (.getfield 33, 3) := by decide +kernel
theorem dX2_finish_5 : decode cX2_finish 5 = .ok (.bipush (-2), 2) := by decide +kernel
theorem dX2_finish_7 : decode cX2_finish 7 = .ok (.iand, 1) := by decide +kernel
theorem dX2_finish_8 : decode cX2_finish 8 = .ok (.iconst 2, 1) := by decide +kernel
theorem dX2_finish_9 : decode cX2_finish 9 = .ok (.ior, 1) := by decide +kernel
theorem dX2_finish_10 : decode cX2_finish 10 = .ok (.putfield 33, 3) := by decide +kernel
theorem dX2_finish_13 : decode cX2_finish 13 = .ok (.aload_n 0, 1) := by decide +kernel
theorem dX2_finish_14 : decode cX2_finish 14 = .ok (.getfield 26, 3) := by decide +kernel
theorem dX2_finish_17 : decode cX2_finish 17 = .ok (.bipush 8, 2) := by decide +kernel
theorem dX2_finish_19 : decode cX2_finish 19 = .ok (.iand, 1) := by decide +kernel
theorem dX2_finish_20 : decode cX2_finish 20 = .ok (.ifCond .eq 13, 3) := by decide +kernel
theorem dX2_finish_23 : decode cX2_finish 23 = .ok (.aload_n 0, 1) := by decide +kernel
theorem dX2_finish_24 : decode cX2_finish 24 = .ok (.getfield 26, 3) := by decide +kernel
theorem dX2_finish_27 : decode cX2_finish 27 = .ok (.bipush 7, 2) := by decide +kernel
theorem dX2_finish_29 : decode cX2_finish 29 = .ok (.iand, 1) := by decide +kernel
theorem dX2_finish_30 : decode cX2_finish 30 = .ok (.goto 4, 3) := by decide +kernel
theorem dX2_finish_33 : decode cX2_finish 33 = .ok (.iconst (-1), 1) := by decide +kernel
theorem dX2_finish_34 : decode cX2_finish 34 = .ok (.ireturn, 1) := by decide +kernel
theorem dX2_isBusy_0 : decode cX2_isBusy 0 = .ok (.aload_n 0, 1) := by decide +kernel
theorem dX2_isBusy_1 : decode cX2_isBusy 1 = .ok (.getfield 33, 3) := by decide +kernel
theorem dX2_isBusy_4 : decode cX2_isBusy 4 = .ok (.iconst 1, 1) := by decide +kernel
theorem dX2_isBusy_5 : decode cX2_isBusy 5 = .ok (.iand, 1) := by decide +kernel
theorem dX2_isBusy_6 : decode cX2_isBusy 6 = .ok (.ifCond .eq 7, 3) := by decide +kernel
theorem dX2_isBusy_9 : decode cX2_isBusy 9 = .ok (.iconst 1, 1) := by decide +kernel
theorem dX2_isBusy_10 : decode cX2_isBusy 10 = .ok (.goto 4, 3) := by decide +kernel
theorem dX2_isBusy_13 : decode cX2_isBusy 13 = .ok (.iconst 0, 1) := by decide +kernel
theorem dX2_isBusy_14 : decode cX2_isBusy 14 = .ok (.ireturn, 1) := by decide +kernel
theorem dX2_stateByte_0 : decode cX2_stateByte 0 = .ok (.aload_n 0, 1) := by decide +kernel
theorem dX2_stateByte_1 : decode cX2_stateByte 1 = .ok (.getfield 33, 3) := by decide +kernel
theorem dX2_stateByte_4 : decode cX2_stateByte 4 = .ok (.ireturn, 1) := by decide +kernel
theorem dX2_movedCount_0 : decode cX2_movedCount 0 = .ok (.aload_n 0, 1) := by decide +kernel
theorem dX2_movedCount_1 : decode cX2_movedCount 1 = .ok (.getfield 43, 3) := by decide +kernel
theorem dX2_movedCount_4 : decode cX2_movedCount 4 = .ok (.ireturn, 1) := by decide +kernel
theorem dX2_addressWord_0 : decode cX2_addressWord 0 = .ok (.aload_n 0, 1) := by decide +kernel
theorem dX2_addressWord_1 : decode cX2_addressWord 1 = .ok (.getfield 22, 3) := by decide +kernel
theorem dX2_addressWord_4 : decode cX2_addressWord 4 = .ok (.ireturn, 1) := by decide +kernel
theorem dX3_init_0 : decode cX3_init 0 = .ok (.aload_n 0, 1) := by decide +kernel
theorem dX3_init_1 : decode cX3_init 1 = .ok (.invokespecial 1, 3) := by decide +kernel
theorem dX3_init_4 : decode cX3_init 4 = .ok (.return_, 1) := by decide +kernel
theorem dX3_packed_0 : decode cX3_packed 0 = .ok (.aload_n 0, 1) := by decide +kernel
theorem dX3_packed_1 : decode cX3_packed 1 = .ok (.getfield 7, 3) := by decide +kernel
theorem dX3_packed_4 : decode cX3_packed 4 = .ok (.ifCond .eq 9, 3) := by decide +kernel
theorem dX3_packed_7 : decode cX3_packed 7 = .ok (.sipush 128, 3) := by decide +kernel
theorem dX3_packed_10 : decode cX3_packed 10 = .ok (.goto 4, 3) := by decide +kernel
theorem dX3_packed_13 : decode cX3_packed 13 = .ok (.iconst 0, 1) := by decide +kernel
theorem dX3_packed_14 : decode cX3_packed 14 = .ok (.aload_n 0, 1) := by decide +kernel
theorem dX3_packed_15 : decode cX3_packed 15 = .ok (.getfield 13, 3) := by decide +kernel
theorem dX3_packed_18 : decode cX3_packed 18 = .ok (.ifCond .eq 8, 3) := by decide +kernel
theorem dX3_packed_21 : decode cX3_packed 21 = .ok (.bipush 64, 2) := by decide +kernel
theorem dX3_packed_23 : decode cX3_packed 23 = .ok (.goto 4, 3) := by decide +kernel
theorem dX3_packed_26 : decode cX3_packed 26 = .ok (.iconst 0, 1) := by decide +kernel
theorem dX3_packed_27 : decode cX3_packed 27 = .ok (.ior, 1) := by decide +kernel
theorem dX3_packed_28 : decode cX3_packed 28 = .ok (.aload_n 0, 1) := by decide +kernel
theorem dX3_packed_29 : decode cX3_packed 29 = .ok (.getfield 16, 3) := by decide +kernel
theorem dX3_packed_32 : decode cX3_packed 32 = .ok (.ifCond .eq 8, 3) := by decide +kernel
theorem dX3_packed_35 : decode cX3_packed 35 = .ok (.bipush 16, 2) := by decide +kernel
theorem dX3_packed_37 : decode cX3_packed 37 = .ok (.goto 4, 3) := by decide +kernel
theorem dX3_packed_40 : decode cX3_packed 40 = .ok (.iconst 0, 1) := by decide +kernel
theorem dX3_packed_41 : decode cX3_packed 41 = .ok (.ior, 1) := by decide +kernel
theorem dX3_packed_42 : decode cX3_packed 42 = .ok (.aload_n 0, 1) := by decide +kernel
theorem dX3_packed_43 : decode cX3_packed 43 = .ok (.getfield 19, 3) := by decide +kernel
theorem dX3_packed_46 : decode cX3_packed 46 = .ok (.ifCond .eq 7, 3) := by decide +kernel
theorem dX3_packed_49 : decode cX3_packed 49 = .ok (.iconst 4, 1) := by decide +kernel
theorem dX3_packed_50 : decode cX3_packed 50 = .ok (.goto 4, 3) := by decide +kernel
theorem dX3_packed_53 : decode cX3_packed 53 = .ok (.iconst 0, 1) := by decide +kernel
theorem dX3_packed_54 : decode cX3_packed 54 = .ok (.ior, 1) := by decide +kernel
theorem dX3_packed_55 : decode cX3_packed 55 = .ok (.iconst 2, 1) := by decide +kernel
theorem dX3_packed_56 : decode cX3_packed 56 = .ok (.ior, 1) := by decide +kernel
theorem dX3_packed_57 : decode cX3_packed 57 = .ok (.aload_n 0, 1) := by decide +kernel
theorem dX3_packed_58 : decode cX3_packed 58 = .ok (.getfield 22, 3) := by decide +kernel
theorem dX3_packed_61 : decode cX3_packed 61 = .ok (.ifCond .eq 7, 3) := by decide +kernel
theorem dX3_packed_64 : decode cX3_packed 64 = .ok (.iconst 1, 1) := by decide +kernel
theorem dX3_packed_65 : decode cX3_packed 65 = .ok (.goto 4, 3) := by decide +kernel
theorem dX3_packed_68 : decode cX3_packed 68 = .ok (.iconst 0, 1) := by decide +kernel
theorem dX3_packed_69 : decode cX3_packed 69 = .ok (.ior, 1) := by decide +kernel
theorem dX3_packed_70 : decode cX3_packed 70 = .ok (.ireturn, 1) := by decide +kernel
theorem dX3_unpack_0 : decode cX3_unpack 0 = .ok (.aload_n 0, 1) := by decide +kernel
theorem dX3_unpack_1 : decode cX3_unpack 1 = .ok (.iload_n 1, 1) := by decide +kernel
theorem dX3_unpack_2 : decode cX3_unpack 2 = .ok (.sipush 128, 3) := by decide +kernel
theorem dX3_unpack_5 : decode cX3_unpack 5 = .ok (.iand, 1) := by decide +kernel
theorem dX3_unpack_6 : decode cX3_unpack 6 = .ok (.ifCond .eq 7, 3) := by decide +kernel
theorem dX3_unpack_9 : decode cX3_unpack 9 = .ok (.iconst 1, 1) := by decide +kernel
theorem dX3_unpack_10 : decode cX3_unpack 10 = .ok (.goto 4, 3) := by decide +kernel
theorem dX3_unpack_13 : decode cX3_unpack 13 = .ok (.iconst 0, 1) := by decide +kernel
theorem dX3_unpack_14 : decode cX3_unpack 14 = .ok (.putfield 7, 3) := by decide +kernel
theorem dX3_unpack_17 : decode cX3_unpack 17 = .ok (.aload_n 0, 1) := by decide +kernel
theorem dX3_unpack_18 : decode cX3_unpack 18 = .ok (.iload_n 1, 1) := by decide +kernel
theorem dX3_unpack_19 : decode cX3_unpack 19 = .ok (.bipush 64, 2) := by decide +kernel
theorem dX3_unpack_21 : decode cX3_unpack 21 = .ok (.iand, 1) := by decide +kernel
theorem dX3_unpack_22 : decode cX3_unpack 22 = .ok (.ifCond .eq 7, 3) := by decide +kernel
theorem dX3_unpack_25 : decode cX3_unpack 25 = .ok (.iconst 1, 1) := by decide +kernel
theorem dX3_unpack_26 : decode cX3_unpack 26 = .ok (.goto 4, 3) := by decide +kernel
theorem dX3_unpack_29 : decode cX3_unpack 29 = .ok (.iconst 0, 1) := by decide +kernel
theorem dX3_unpack_30 : decode cX3_unpack 30 = .ok (.putfield 13, 3) := by decide +kernel
theorem dX3_unpack_33 : decode cX3_unpack 33 = .ok (.aload_n 0, 1) := by decide +kernel
theorem dX3_unpack_34 : decode cX3_unpack 34 = .ok (.iload_n 1, 1) := by decide +kernel
theorem dX3_unpack_35 : decode cX3_unpack 35 = .ok (.bipush 16, 2) := by decide +kernel
theorem dX3_unpack_37 : decode cX3_unpack 37 = .ok (.iand, 1) := by decide +kernel
theorem dX3_unpack_38 : decode cX3_unpack 38 = .ok (.ifCond .eq 7, 3) := by decide +kernel
theorem dX3_unpack_41 : decode cX3_unpack 41 = .ok (.iconst 1, 1) := by decide +kernel
theorem dX3_unpack_42 : decode cX3_unpack 42 = .ok (.goto 4, 3) := by decide +kernel
theorem dX3_unpack_45 : decode cX3_unpack 45 = .ok (.iconst 0, 1) := by decide +kernel
theorem dX3_unpack_46 : decode cX3_unpack 46 = .ok (.putfield 16, 3) := by decide +kernel
theorem dX3_unpack_49 : decode cX3_unpack 49 = .ok (.aload_n 0, 1) := by decide +kernel
theorem dX3_unpack_50 : decode cX3_unpack 50 = .ok (.iload_n 1, 1) := by decide +kernel
theorem dX3_unpack_51 : decode cX3_unpack 51 = .ok (.iconst 4, 1) := by decide +kernel
theorem dX3_unpack_52 : decode cX3_unpack 52 = .ok (.iand, 1) := by decide +kernel
theorem dX3_unpack_53 : decode cX3_unpack 53 = .ok (.ifCond .eq 7, 3) := by decide +kernel
theorem dX3_unpack_56 : decode cX3_unpack 56 = .ok (.iconst 1, 1) := by decide +kernel
theorem dX3_unpack_57 : decode cX3_unpack 57 = .ok (.goto 4, 3) := by decide +kernel
theorem dX3_unpack_60 : decode cX3_unpack 60 = .ok (.iconst 0, 1) := by decide +kernel
theorem dX3_unpack_61 : decode cX3_unpack 61 = .ok (.putfield 19, 3) := by decide +kernel
theorem dX3_unpack_64 : decode cX3_unpack 64 = .ok (.aload_n 0, 1) := by decide +kernel
theorem dX3_unpack_65 : decode cX3_unpack 65 = .ok (.iload_n 1, 1) := by decide +kernel
theorem dX3_unpack_66 : decode cX3_unpack 66 = .ok (.iconst 1, 1) := by decide +kernel
theorem dX3_unpack_67 : decode cX3_unpack 67 = .ok (.iand, 1) := by decide +kernel
theorem dX3_unpack_68 : decode cX3_unpack 68 = .ok (.ifCond .eq 7, 3) := by decide +kernel
theorem dX3_unpack_71 : decode cX3_unpack 71 = .ok (.iconst 1, 1) := by decide +kernel
theorem dX3_unpack_72 : decode cX3_unpack 72 = .ok (.goto 4, 3) := by decide +kernel
theorem dX3_unpack_75 : decode cX3_unpack 75 = .ok (.iconst 0, 1) := by decide +kernel
theorem dX3_unpack_76 : decode cX3_unpack 76 = .ok (.putfield 22, 3) := by decide +kernel
theorem dX3_unpack_79 : decode cX3_unpack 79 = .ok (.return_, 1) := by decide +kernel
set_option maxRecDepth 20000 in
theorem ggX3_setLogic_J6_bitCount_0f7a4 : GoodIn wsX3_setLogic wsJ6_bitCount_0f7a4 := goodIn_r _ [7, 8, 9, 10] (by decide +kernel) (by decide +kernel)
set_option maxRecDepth 20000 in
theorem gX3_setLogic_J6_bitCount_0f7a4 : GoodIn wsX3_setLogic (va_wsS RX3 25 yJ6_bitCount_0f7a4 wsJ6_bitCount_0f7a4) := goodIn_app (goodIn_of _ (by decide +kernel)) ggX3_setLogic_J6_bitCount_0f7a4
theorem dX3_setLogic_0 : decode cX3_setLogic 0 = .ok (.aload_n 0, 1) := by decide +kernel
theorem dX3_setLogic_1 : decode cX3_setLogic 1 = .ok (.iload_n 1, 1) := by decide +kernel
theorem dX3_setLogic_2 : decode cX3_setLogic 2 = .ok (.sipush 128, 3) := by decide +kernel
theorem dX3_setLogic_5 : decode cX3_setLogic 5 = .ok (.iand, 1) := by decide +kernel
theorem dX3_setLogic_6 : decode cX3_setLogic 6 = .ok (.ifCond .eq 7, 3) := by decide +kernel
theorem dX3_setLogic_9 : decode cX3_setLogic 9 = .ok (.iconst 1, 1) := by decide +kernel
theorem dX3_setLogic_10 : decode cX3_setLogic 10 = .ok (.goto 4, 3) := by decide +kernel
theorem dX3_setLogic_13 : decode cX3_setLogic 13 = .ok (.iconst 0, 1) := by decide +kernel
theorem dX3_setLogic_14 : decode cX3_setLogic 14 = .ok (.putfield 7, 3) := by decide +kernel
theorem dX3_setLogic_17 : decode cX3_setLogic 17 = .ok (.aload_n 0, 1) := by decide +kernel
theorem dX3_setLogic_18 : decode cX3_setLogic 18 = .ok (.iload_n 1, 1) := by decide +kernel
theorem dX3_setLogic_19 : decode cX3_setLogic 19 = .ok (.ifCond .ne 7, 3) := by decide +kernel
theorem dX3_setLogic_22 : decode cX3_setLogic 22 = .ok (.iconst 1, 1) := by decide +kernel
theorem dX3_setLogic_23 : decode cX3_setLogic 23 = .ok (.goto 4, 3) := by decide +kernel
theorem dX3_setLogic_26 : decode cX3_setLogic 26 = .ok (.iconst 0, 1) := by decide +kernel
theorem dX3_setLogic_27 : decode cX3_setLogic 27 = .ok (.putfield 13, 3) := by decide +kernel
theorem dX3_setLogic_30 : decode cX3_setLogic 30 = .ok (.aload_n 0, 1) := by decide +kernel
theorem dX3_setLogic_31 : decode cX3_setLogic 31 = .ok (.iload_n 1, 1) := by decide +kernel
theorem dX3_setLogic_32 : decode cX3_setLogic 32 = .ok (.invokestatic 25, 3) := by decide +kernel
theorem dX3_setLogic_35 : decode cX3_setLogic 35 = .ok (.iconst 1, 1) := by decide +kernel
theorem dX3_setLogic_36 : decode cX3_setLogic 36 = .ok (.iand, 1) := by decide +kernel
theorem dX3_setLogic_37 : decode cX3_setLogic 37 = .ok (.ifCond .ne 7, 3) := by decide +kernel
theorem dX3_setLogic_40 : decode cX3_setLogic 40 = .ok (.iconst 1, 1) := by decide +kernel
theorem dX3_setLogic_41 : decode cX3_setLogic 41 = .ok (.goto 4, 3) := by decide +kernel
theorem dX3_setLogic_44 : decode cX3_setLogic 44 = .ok (.iconst 0, 1) := by decide +kernel
theorem dX3_setLogic_45 : decode cX3_setLogic 45 = .ok (.putfield 19, 3) := by decide +kernel
theorem dX3_setLogic_48 : decode cX3_setLogic 48 = .ok (.return_, 1) := by decide +kernel
theorem dX3_setHalf_0 : decode cX3_setHalf 0 = .ok (.aload_n 0, 1) := by decide +kernel
theorem dX3_setHalf_1 : decode cX3_setHalf 1 = .ok (.iload_n 1, 1) := by decide +kernel
theorem dX3_setHalf_2 : decode cX3_setHalf 2 = .ok (.putfield 16, 3) := by decide +kernel
theorem dX3_setHalf_5 : decode cX3_setHalf 5 = .ok (.return_, 1) := by decide +kernel
theorem dX3_setCarry_0 : decode cX3_setCarry 0 = .ok (.aload_n 0, 1) := by decide +kernel
theorem dX3_setCarry_1 : decode cX3_setCarry 1 = .ok (.iload_n 1, 1) := by decide +kernel
theorem dX3_setCarry_2 : decode cX3_setCarry 2 = .ok (.putfield 22, 3) := by decide +kernel
theorem dX3_setCarry_5 : decode cX3_setCarry 5 = .ok (.return_, 1) := by decide +kernel
theorem dX3_hasHalf_0 : decode cX3_hasHalf 0 = .ok (.aload_n 0, 1) := by decide +kernel
theorem dX3_hasHalf_1 : decode cX3_hasHalf 1 = .ok (.getfield 16, 3) := by decide +kernel
theorem dX3_hasHalf_4 : decode cX3_hasHalf 4 = .ok (.ireturn, 1) := by decide +kernel
theorem dX3_hasCarry_0 : decode cX3_hasCarry 0 = .ok (.aload_n 0, 1) := by decide +kernel
theorem dX3_hasCarry_1 : decode cX3_hasCarry 1 = .ok (.getfield 22, 3) := by decide +kernel
theorem dX3_hasCarry_4 : decode cX3_hasCarry 4 = .ok (.ireturn, 1) := by decide +kernel
theorem dX3_carryBit_0 : decode cX3_carryBit 0 = .ok (.aload_n 0, 1) := by decide +kernel
theorem dX3_carryBit_1 : decode cX3_carryBit 1 = .ok (.getfield 22, 3) := by decide +kernel
theorem dX3_carryBit_4 : decode cX3_carryBit 4 = .ok (.ifCond .eq 7, 3) := by decide +kernel
theorem dX3_carryBit_7 : decode cX3_carryBit 7 = .ok (.iconst 1, 1) := by decide +kernel
theorem dX3_carryBit_8 : decode cX3_carryBit 8 = .ok (.goto 4, 3) := by decide +kernel
theorem dX3_carryBit_11 : decode cX3_carryBit 11 = .ok (.iconst 0, 1) := by decide +kernel
theorem dX3_carryBit_12 : decode cX3_carryBit 12 = .ok (.ireturn, 1) := by decide +kernel
theorem dX3_holds_0 : decode cX3_holds 0 = .ok (.iload_n 1, 1) := by decide +kernel
theorem dX3_holds_1 : decode cX3_holds 1 = .ok (.iconst 1, 1) := by decide +kernel
theorem dX3_holds_2 : decode cX3_holds 2 = .ok (.iand, 1) := by decide +kernel
theorem dX3_holds_3 : decode cX3_holds 3 = .ok (.ifCond .eq 7, 3) := by decide +kernel
theorem dX3_holds_6 : decode cX3_holds 6 = .ok (.iconst 1, 1) := by decide +kernel
theorem dX3_holds_7 : decode cX3_holds 7 = .ok (.goto 4, 3) := by decide +kernel
theorem dX3_holds_10 : decode cX3_holds 10 = .ok (.iconst 0, 1) := by decide +kernel
theorem dX3_holds_11 : decode cX3_holds 11 = .ok (.istore_n 2, 1) := by decide +kernel
theorem dX3_holds_12 : decode cX3_holds 12 = .ok (.iload_n 1, 1) := by decide +kernel
theorem dX3_holds_13 : decode cX3_holds 13 = .ok (.iconst 1, 1) := by decide +kernel
theorem dX3_holds_14 : decode cX3_holds 14 = .ok (.ishr, 1) := by decide +kernel
theorem dX3_holds_15 : decode cX3_holds 15 = .ok (.tableswitch 67 0 2 #[25, 39, 53], 25) := by decide +kernel
theorem dX3_holds_40 : decode cX3_holds 40 = .ok (.aload_n 0, 1) := by decide +kernel
theorem dX3_holds_41 : decode cX3_holds 41 = .ok (.getfield 13, 3) := by decide +kernel
theorem dX3_holds_44 : decode cX3_holds 44 = .ok (.iload_n 2, 1) := by decide +kernel
theorem dX3_holds_45 : decode cX3_holds 45 = .ok (.if_icmp .ne 7, 3) := by decide +kernel
theorem dX3_holds_48 : decode cX3_holds 48 = .ok (.iconst 1, 1) := by decide +kernel
theorem dX3_holds_49 : decode cX3_holds 49 = .ok (.goto 4, 3) := by decide +kernel
theorem dX3_holds_52 : decode cX3_holds 52 = .ok (.iconst 0, 1) := by decide +kernel
theorem dX3_holds_53 : decode cX3_holds 53 = .ok (.ireturn, 1) := by decide +kernel
theorem dX3_holds_54 : decode cX3_holds 54 = .ok (.aload_n 0, 1) := by decide +kernel
theorem dX3_holds_55 : decode cX3_holds 55 = .ok (.getfield 22, 3) := by decide +kernel
theorem dX3_holds_58 : decode cX3_holds 58 = .ok (.iload_n 2, 1) := by decide +kernel
theorem dX3_holds_59 : decode cX3_holds 59 = .ok (.if_icmp .ne 7, 3) := by decide +kernel
theorem dX3_holds_62 : decode cX3_holds 62 = .ok (.iconst 1, 1) := by decide +kernel
theorem dX3_holds_63 : decode cX3_holds 63 = .ok (.goto 4, 3) := by decide +kernel
theorem dX3_holds_66 : decode cX3_holds 66 = .ok (.iconst 0, 1) := by decide +kernel
theorem dX3_holds_67 : decode cX3_holds 67 = .ok (.ireturn, 1) := by decide +kernel
theorem dX3_holds_68 : decode cX3_holds 68 = .ok (.aload_n 0, 1) := by decide +kernel
theorem dX3_holds_69 : decode cX3_holds 69 = .ok (.getfield 19, 3) := by decide +kernel
theorem dX3_holds_72 : decode cX3_holds 72 = .ok (.iload_n 2, 1) := by decide +kernel
theorem dX3_holds_73 : decode cX3_holds 73 = .ok (.if_icmp .ne 7, 3) := by decide +kernel
theorem dX3_holds_76 : decode cX3_holds 76 = .ok (.iconst 1, 1) := by decide +kernel
theorem dX3_holds_77 : decode cX3_holds 77 = .ok (.goto 4, 3) := by decide +kernel
theorem dX3_holds_80 : decode cX3_holds 80 = .ok (.iconst 0, 1) := by decide +kernel
theorem dX3_holds_81 : decode cX3_holds 81 = .ok (.ireturn, 1) := by decide +kernel
theorem dX3_holds_82 : decode cX3_holds 82 = .ok (.aload_n 0, 1) := by decide +kernel
theorem dX3_holds_83 : decode cX3_holds 83 = .ok (.getfield 7, 3) := by decide +kernel
theorem dX3_holds_86 : decode cX3_holds 86 = .ok (.iload_n 2, 1) := by decide +kernel
theorem dX3_holds_87 : decode cX3_holds 87 = .ok (.if_icmp .ne 7, 3) := by decide +kernel
theorem dX3_holds_90 : decode cX3_holds 90 = .ok (.iconst 1, 1) := by decide +kernel
theorem dX3_holds_91 : decode cX3_holds 91 = .ok (.goto 4, 3) := by decide +kernel
theorem dX3_holds_94 : decode cX3_holds 94 = .ok (.iconst 0, 1) := by decide +kernel
theorem dX3_holds_95 : decode cX3_holds 95 = .ok (.ireturn, 1) := by decide +kernel
set_option maxRecDepth 20000 in
theorem ggX4_init_X3_init : GoodIn wsX4_init wsX3_init := goodIn_r _ [19, 20, 2, 3] (by decide +kernel) (by decide +kernel)
set_option maxRecDepth 20000 in
theorem gX4_init_X3_init_n11 : GoodIn wsX4_init (wsX3_init) := ggX4_init_X3_init
set_option maxRecDepth 20000 in
theorem ggX4_init_X0_init : GoodIn wsX4_init wsX0_init := goodIn_r _ [23, 24, 2, 3, 25, 44] (by decide +kernel) (by decide +kernel)
set_option maxRecDepth 20000 in
theorem gX4_init_X0_init : GoodIn wsX4_init (wsX0_init) := ggX4_init_X0_init
theorem dX4_init_0 : decode cX4_init 0 = .ok (.aload_n 0, 1) := by decide +kernel
theorem dX4_init_1 : decode cX4_init 1 = .ok (.invokespecial 3, 3) := by decide +kernel
theorem dX4_init_4 : decode cX4_init 4 = .ok (.aload_n 0, 1) := by decide +kernel
theorem dX4_init_5 : decode cX4_init 5 = .ok (.new 9, 3) := by decide +kernel
theorem dX4_init_8 : decode cX4_init 8 = .ok (.dup, 1) := by decide +kernel
theorem dX4_init_9 : decode cX4_init 9 = .ok (.invokespecial 11, 3) := by decide +kernel
theorem dX4_init_12 : decode cX4_init 12 = .ok (.putfield 12, 3) := by decide +kernel
theorem dX4_init_15 : decode cX4_init 15 = .ok (.aload_n 0, 1) := by decide +kernel
theorem dX4_init_16 : decode cX4_init 16 = .ok (.new 18, 3) := by decide +kernel
theorem dX4_init_19 : decode cX4_init 19 = .ok (.dup, 1) := by decide +kernel
theorem dX4_init_20 : decode cX4_init 20 = .ok (.aload_n 0, 1) := by decide +kernel
theorem dX4_init_21 : decode cX4_init 21 = .ok (.getfield 12, 3) := by decide +kernel
theorem dX4_init_24 : decode cX4_init 24 = .ok (.invokespecial 20, 3) := by decide +kernel
theorem dX4_init_27 : decode cX4_init 27 = .ok (.putfield 23, 3) := by decide +kernel
theorem dX4_init_30 : decode cX4_init 30 = .ok (.aload_n 0, 1) := by decide +kernel
theorem dX4_init_31 : decode cX4_init 31 = .ok (.bipush 8, 2) := by decide +kernel
theorem dX4_init_33 : decode cX4_init 33 = .ok (.newarray .int, 2) := by decide +kernel
theorem dX4_init_35 : decode cX4_init 35 = .ok (.putfield 27, 3) := by decide +kernel
theorem dX4_init_38 : decode cX4_init 38 = .ok (.aload_n 0, 1) := by decide +kernel
theorem dX4_init_39 : decode cX4_init 39 = .ok (.iconst (-1), 1) := by decide +kernel
