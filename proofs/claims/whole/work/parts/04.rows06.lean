theorem dX7_register_41 : decode cX7_register 41 = .ok (.iload_n 1, 1) := by decide +kernel
theorem dX7_register_42 : decode cX7_register 42 = .ok (.bipush 8, 2) := by decide +kernel
theorem dX7_register_44 : decode cX7_register 44 = .ok (.if_icmp .ne 10, 3) := by decide +kernel
theorem dX7_register_47 : decode cX7_register 47 = .ok (.aload_n 0, 1) := by decide +kernel
theorem dX7_register_48 : decode cX7_register 48 = .ok (.getfield 47, 3) := by decide +kernel
theorem dX7_register_51 : decode cX7_register 51 = .ok (.goto 22, 3) := by decide +kernel
theorem dX7_register_54 : decode cX7_register 54 = .ok (.iload_n 1, 1) := by decide +kernel
theorem dX7_register_55 : decode cX7_register 55 = .ok (.bipush 9, 2) := by decide +kernel
theorem dX7_register_57 : decode cX7_register 57 = .ok (.if_icmp .ne 10, 3) := by decide +kernel
theorem dX7_register_60 : decode cX7_register 60 = .ok (.aload_n 0, 1) := by decide +kernel
theorem dX7_register_61 : decode cX7_register 61 = .ok (.getfield 55, 3) := by decide +kernel
theorem dX7_register_64 : decode cX7_register 64 = .ok (.goto 9, 3) := by decide +kernel
theorem dX7_register_67 : decode cX7_register 67 = .ok (.aload_n 0, 1) := by decide +kernel
theorem dX7_register_68 : decode cX7_register 68 = .ok (.getfield 16, 3) := by decide +kernel
theorem dX7_register_71 : decode cX7_register 71 = .ok (.iload_n 1, 1) := by decide +kernel
theorem dX7_register_72 : decode cX7_register 72 = .ok (.iaload, 1) := by decide +kernel
theorem dX7_register_73 : decode cX7_register 73 = .ok (.ireturn, 1) := by decide +kernel
set_option maxRecDepth 20000 in
theorem ggX7_put_X7_setFlags : GoodIn wsX7_put wsX7_setFlags := goodIn_r _ [10, 11, 12, 13, 14, 15, 16, 17, 18, 19, 20, 21, 22, 23, 24, 25, 26, 27, 28, 29, 30, 31, 32, 33, 34, 35, 36, 37, 38, 39, 40, 41, 42, 43, 44, 45] (by decide +kernel) (by decide +kernel)
set_option maxRecDepth 20000 in
theorem gX7_put_X7_setFlags : GoodIn wsX7_put (wsV RX7 86 RX7 yX7_setFlags wsX7_setFlags) := goodIn_app (goodIn_of _ (by decide +kernel)) ggX7_put_X7_setFlags
theorem dX7_put_0 : decode cX7_put 0 = .ok (.aload_n 0, 1) := by decide +kernel
theorem dX7_put_1 : decode cX7_put 1 = .ok (.iload_n 1, 1) := by decide +kernel
theorem dX7_put_2 : decode cX7_put 2 = .ok (.ifCond .lt 9, 3) := by decide +kernel
theorem dX7_put_5 : decode cX7_put 5 = .ok (.iload_n 1, 1) := by decide +kernel
theorem dX7_put_6 : decode cX7_put 6 = .ok (.bipush 9, 2) := by decide +kernel
theorem dX7_put_8 : decode cX7_put 8 = .ok (.if_icmp .le 7, 3) := by decide +kernel
theorem dX7_put_11 : decode cX7_put 11 = .ok (.iconst 1, 1) := by decide +kernel
theorem dX7_put_12 : decode cX7_put 12 = .ok (.goto 4, 3) := by decide +kernel
theorem dX7_put_15 : decode cX7_put 15 = .ok (.iconst 0, 1) := by decide +kernel
theorem dX7_put_16 : decode cX7_put 16 = .ok (.putfield 29, 3) := by decide +kernel
theorem dX7_put_19 : decode cX7_put 19 = .ok (.aload_n 0, 1) := by decide +kernel
theorem dX7_put_20 : decode cX7_put 20 = .ok (.getfield 29, 3) := by decide +kernel
theorem dX7_put_23 : decode cX7_put 23 = .ok (.ifCond .le 4, 3) := by decide +kernel
theorem dX7_put_26 : decode cX7_put 26 = .ok (.return_, 1) := by decide +kernel
theorem dX7_put_27 : decode cX7_put 27 = .ok (.iload_n 1, 1) := by decide +kernel
theorem dX7_put_28 : decode cX7_put 28 = .ok (.bipush 6, 2) := by decide +kernel
theorem dX7_put_30 : decode cX7_put 30 = .ok (.if_icmp .ne 11, 3) := by decide +kernel
theorem dX7_put_33 : decode cX7_put 33 = .ok (.aload_n 0, 1) := by decide +kernel
theorem dX7_put_34 : decode cX7_put 34 = .ok (.iload_n 2, 1) := by decide +kernel
theorem dX7_put_35 : decode cX7_put 35 = .ok (.invokevirtual 86, 3) := by decide +kernel
theorem dX7_put_38 : decode cX7_put 38 = .ok (.goto 48, 3) := by decide +kernel
theorem dX7_put_41 : decode cX7_put 41 = .ok (.iload_n 1, 1) := by decide +kernel
theorem dX7_put_42 : decode cX7_put 42 = .ok (.bipush 8, 2) := by decide +kernel
theorem dX7_put_44 : decode cX7_put 44 = .ok (.if_icmp .ne 14, 3) := by decide +kernel
theorem dX7_put_47 : decode cX7_put 47 = .ok (.aload_n 0, 1) := by decide +kernel
theorem dX7_put_48 : decode cX7_put 48 = .ok (.iload_n 2, 1) := by decide +kernel
theorem dX7_put_49 : decode cX7_put 49 = .ok (.ldc 50, 2) := by decide +kernel
theorem dX7_put_51 : decode cX7_put 51 = .ok (.iand, 1) := by decide +kernel
theorem dX7_put_52 : decode cX7_put 52 = .ok (.putfield 47, 3) := by decide +kernel
theorem dX7_put_55 : decode cX7_put 55 = .ok (.goto 31, 3) := by decide +kernel
theorem dX7_put_58 : decode cX7_put 58 = .ok (.iload_n 1, 1) := by decide +kernel
theorem dX7_put_59 : decode cX7_put 59 = .ok (.bipush 9, 2) := by decide +kernel
theorem dX7_put_61 : decode cX7_put 61 = .ok (.if_icmp .ne 14, 3) := by decide +kernel
theorem dX7_put_64 : decode cX7_put 64 = .ok (.aload_n 0, 1) := by decide +kernel
theorem dX7_put_65 : decode cX7_put 65 = .ok (.iload_n 2, 1) := by decide +kernel
theorem dX7_put_66 : decode cX7_put 66 = .ok (.ldc 50, 2) := by decide +kernel
theorem dX7_put_68 : decode cX7_put 68 = .ok (.iand, 1) := by decide +kernel
theorem dX7_put_69 : decode cX7_put 69 = .ok (.putfield 55, 3) := by decide +kernel
theorem dX7_put_72 : decode cX7_put 72 = .ok (.goto 14, 3) := by decide +kernel
theorem dX7_put_75 : decode cX7_put 75 = .ok (.aload_n 0, 1) := by decide +kernel
theorem dX7_put_76 : decode cX7_put 76 = .ok (.getfield 16, 3) := by decide +kernel
theorem dX7_put_79 : decode cX7_put 79 = .ok (.iload_n 1, 1) := by decide +kernel
theorem dX7_put_80 : decode cX7_put 80 = .ok (.iload_n 2, 1) := by decide +kernel
theorem dX7_put_81 : decode cX7_put 81 = .ok (.sipush 255, 3) := by decide +kernel
theorem dX7_put_84 : decode cX7_put 84 = .ok (.iand, 1) := by decide +kernel
theorem dX7_put_85 : decode cX7_put 85 = .ok (.iastore, 1) := by decide +kernel
theorem dX7_put_86 : decode cX7_put 86 = .ok (.return_, 1) := by decide +kernel
theorem dX7_logic_0 : decode cX7_logic 0 = .ok (.iconst 0, 1) := by decide +kernel
theorem dX7_logic_1 : decode cX7_logic 1 = .ok (.istore_n 2, 1) := by decide +kernel
theorem dX7_logic_2 : decode cX7_logic 2 = .ok (.iconst 0, 1) := by decide +kernel
theorem dX7_logic_3 : decode cX7_logic 3 = .ok (.istore_n 3, 1) := by decide +kernel
theorem dX7_logic_4 : decode cX7_logic 4 = .ok (.iload_n 3, 1) := by decide +kernel
theorem dX7_logic_5 : decode cX7_logic 5 = .ok (.bipush 8, 2) := by decide +kernel
theorem dX7_logic_7 : decode cX7_logic 7 = .ok (.if_icmp .ge 17, 3) := by decide +kernel
theorem dX7_logic_10 : decode cX7_logic 10 = .ok (.iload_n 2, 1) := by decide +kernel
theorem dX7_logic_11 : decode cX7_logic 11 = .ok (.iload_n 1, 1) := by decide +kernel
theorem dX7_logic_12 : decode cX7_logic 12 = .ok (.iload_n 3, 1) := by decide +kernel
theorem dX7_logic_13 : decode cX7_logic 13 = .ok (.ishr, 1) := by decide +kernel
theorem dX7_logic_14 : decode cX7_logic 14 = .ok (.iconst 1, 1) := by decide +kernel
theorem dX7_logic_15 : decode cX7_logic 15 = .ok (.iand, 1) := by decide +kernel
theorem dX7_logic_16 : decode cX7_logic 16 = .ok (.iadd, 1) := by decide +kernel
theorem dX7_logic_17 : decode cX7_logic 17 = .ok (.istore_n 2, 1) := by decide +kernel
theorem dX7_logic_18 : decode cX7_logic 18 = .ok (.iinc 3 1, 3) := by decide +kernel
theorem dX7_logic_21 : decode cX7_logic 21 = .ok (.goto (-17), 3) := by decide +kernel
theorem dX7_logic_24 : decode cX7_logic 24 = .ok (.aload_n 0, 1) := by decide +kernel
theorem dX7_logic_25 : decode cX7_logic 25 = .ok (.iload_n 1, 1) := by decide +kernel
theorem dX7_logic_26 : decode cX7_logic 26 = .ok (.bipush 127, 2) := by decide +kernel
theorem dX7_logic_28 : decode cX7_logic 28 = .ok (.if_icmp .le 7, 3) := by decide +kernel
theorem dX7_logic_31 : decode cX7_logic 31 = .ok (.iconst 1, 1) := by decide +kernel
theorem dX7_logic_32 : decode cX7_logic 32 = .ok (.goto 4, 3) := by decide +kernel
theorem dX7_logic_35 : decode cX7_logic 35 = .ok (.iconst 0, 1) := by decide +kernel
theorem dX7_logic_36 : decode cX7_logic 36 = .ok (.putfield 67, 3) := by decide +kernel
theorem dX7_logic_39 : decode cX7_logic 39 = .ok (.aload_n 0, 1) := by decide +kernel
theorem dX7_logic_40 : decode cX7_logic 40 = .ok (.iload_n 1, 1) := by decide +kernel
theorem dX7_logic_41 : decode cX7_logic 41 = .ok (.ifCond .ne 7, 3) := by decide +kernel
theorem dX7_logic_44 : decode cX7_logic 44 = .ok (.iconst 1, 1) := by decide +kernel
theorem dX7_logic_45 : decode cX7_logic 45 = .ok (.goto 4, 3) := by decide +kernel
theorem dX7_logic_48 : decode cX7_logic 48 = .ok (.iconst 0, 1) := by decide +kernel
theorem dX7_logic_49 : decode cX7_logic 49 = .ok (.putfield 71, 3) := by decide +kernel
theorem dX7_logic_52 : decode cX7_logic 52 = .ok (.aload_n 0, 1) := by decide +kernel
theorem dX7_logic_53 : decode cX7_logic 53 = .ok (.iload_n 2, 1) := by decide +kernel
theorem dX7_logic_54 : decode cX7_logic 54 = .ok (.iconst 2, 1) := by decide +kernel
theorem dX7_logic_55 : decode cX7_logic 55 = .ok (.irem, 1) := by decide +kernel
theorem dX7_logic_56 : decode cX7_logic 56 = .ok (.ifCond .ne 7, 3) := by decide +kernel
theorem dX7_logic_59 : decode cX7_logic 59 = .ok (.iconst 1, 1) := by decide +kernel
theorem dX7_logic_60 : decode cX7_logic 60 = .ok (.goto 4, 3) := by decide +kernel
theorem dX7_logic_63 : decode cX7_logic 63 = .ok (.iconst 0, 1) := by decide +kernel
theorem dX7_logic_64 : decode cX7_logic 64 = .ok (.putfield 77, 3) := by decide +kernel
theorem dX7_logic_67 : decode cX7_logic 67 = .ok (.return_, 1) := by decide +kernel
theorem dX7_holds_0 : decode cX7_holds 0 = .ok (.iload_n 1, 1) := by decide +kernel
theorem dX7_holds_1 : decode cX7_holds 1 = .ok (.iconst 2, 1) := by decide +kernel
theorem dX7_holds_2 : decode cX7_holds 2 = .ok (.if_icmp .ge 10, 3) := by decide +kernel
theorem dX7_holds_5 : decode cX7_holds 5 = .ok (.aload_n 0, 1) := by decide +kernel
theorem dX7_holds_6 : decode cX7_holds 6 = .ok (.getfield 71, 3) := by decide +kernel
theorem dX7_holds_9 : decode cX7_holds 9 = .ok (.goto 32, 3) := by decide +kernel
theorem dX7_holds_12 : decode cX7_holds 12 = .ok (.iload_n 1, 1) := by decide +kernel
theorem dX7_holds_13 : decode cX7_holds 13 = .ok (.iconst 4, 1) := by decide +kernel
theorem dX7_holds_14 : decode cX7_holds 14 = .ok (.if_icmp .ge 10, 3) := by decide +kernel
theorem dX7_holds_17 : decode cX7_holds 17 = .ok (.aload_n 0, 1) := by decide +kernel
theorem dX7_holds_18 : decode cX7_holds 18 = .ok (.getfield 80, 3) := by decide +kernel
theorem dX7_holds_21 : decode cX7_holds 21 = .ok (.goto 20, 3) := by decide +kernel
theorem dX7_holds_24 : decode cX7_holds 24 = .ok (.iload_n 1, 1) := by decide +kernel
theorem dX7_holds_25 : decode cX7_holds 25 = .ok (.bipush 6, 2) := by decide +kernel
theorem dX7_holds_27 : decode cX7_holds 27 = .ok (.if_icmp .ge 10, 3) := by decide +kernel
theorem dX7_holds_30 : decode cX7_holds 30 = .ok (.aload_n 0, 1) := by decide +kernel
theorem dX7_holds_31 : decode cX7_holds 31 = .ok (.getfield 77, 3) := by decide +kernel
theorem dX7_holds_34 : decode cX7_holds 34 = .ok (.goto 7, 3) := by decide +kernel
theorem dX7_holds_37 : decode cX7_holds 37 = .ok (.aload_n 0, 1) := by decide +kernel
theorem dX7_holds_38 : decode cX7_holds 38 = .ok (.getfield 67, 3) := by decide +kernel
theorem dX7_holds_41 : decode cX7_holds 41 = .ok (.istore_n 2, 1) := by decide +kernel
theorem dX7_holds_42 : decode cX7_holds 42 = .ok (.iload_n 2, 1) := by decide +kernel
theorem dX7_holds_43 : decode cX7_holds 43 = .ok (.iload_n 1, 1) := by decide +kernel
theorem dX7_holds_44 : decode cX7_holds 44 = .ok (.iconst 2, 1) := by decide +kernel
theorem dX7_holds_45 : decode cX7_holds 45 = .ok (.irem, 1) := by decide +kernel
theorem dX7_holds_46 : decode cX7_holds 46 = .ok (.iconst 1, 1) := by decide +kernel
theorem dX7_holds_47 : decode cX7_holds 47 = .ok (.if_icmp .ne 7, 3) := by decide +kernel
theorem dX7_holds_50 : decode cX7_holds 50 = .ok (.iconst 1, 1) := by decide +kernel
theorem dX7_holds_51 : decode cX7_holds 51 = .ok (.goto 4, 3) := by decide +kernel
theorem dX7_holds_54 : decode cX7_holds 54 = .ok (.iconst 0, 1) := by decide +kernel
theorem dX7_holds_55 : decode cX7_holds 55 = .ok (.if_icmp .ne 7, 3) := by decide +kernel
theorem dX7_holds_58 : decode cX7_holds 58 = .ok (.iconst 1, 1) := by decide +kernel
theorem dX7_holds_59 : decode cX7_holds 59 = .ok (.goto 4, 3) := by decide +kernel
theorem dX7_holds_62 : decode cX7_holds 62 = .ok (.iconst 0, 1) := by decide +kernel
theorem dX7_holds_63 : decode cX7_holds 63 = .ok (.ireturn, 1) := by decide +kernel
set_option maxRecDepth 20000 in
theorem ggX7_sum__X7_logic : GoodIn wsX7_sum_ wsX7_logic := goodIn_r _ [8, 9, 10, 11, 12, 13, 14, 15, 16, 17, 18, 19, 20, 21, 22, 23, 24, 25, 26, 27, 28, 29, 30, 31, 32, 33, 34, 35, 36, 37, 38, 39, 40, 41] (by decide +kernel) (by decide +kernel)
set_option maxRecDepth 20000 in
theorem gX7_sum__X7_logic : GoodIn wsX7_sum_ (wsV RX7 90 RX7 yX7_logic wsX7_logic) := goodIn_app (goodIn_of _ (by decide +kernel)) ggX7_sum__X7_logic
theorem dX7_sum__0 : decode cX7_sum_ 0 = .ok (.aload_n 0, 1) := by decide +kernel
theorem dX7_sum__1 : decode cX7_sum_ 1 = .ok (.getfield 16, 3) := by decide +kernel
theorem dX7_sum__4 : decode cX7_sum_ 4 = .ok (.bipush 7, 2) := by decide +kernel
theorem dX7_sum__6 : decode cX7_sum_ 6 = .ok (.iaload, 1) := by decide +kernel
theorem dX7_sum__7 : decode cX7_sum_ 7 = .ok (.iload_n 1, 1) := by decide +kernel
theorem dX7_sum__8 : decode cX7_sum_ 8 = .ok (.iadd, 1) := by decide +kernel
theorem dX7_sum__9 : decode cX7_sum_ 9 = .ok (.iload_n 2, 1) := by decide +kernel
theorem dX7_sum__10 : decode cX7_sum_ 10 = .ok (.iadd, 1) := by decide +kernel
theorem dX7_sum__11 : decode cX7_sum_ 11 = .ok (.istore_n 3, 1) := by decide +kernel
theorem dX7_sum__12 : decode cX7_sum_ 12 = .ok (.aload_n 0, 1) := by decide +kernel
theorem dX7_sum__13 : decode cX7_sum_ 13 = .ok (.aload_n 0, 1) := by decide +kernel
theorem dX7_sum__14 : decode cX7_sum_ 14 = .ok (.getfield 16, 3) := by decide +kernel
theorem dX7_sum__17 : decode cX7_sum_ 17 = .ok (.bipush 7, 2) := by decide +kernel
theorem dX7_sum__19 : decode cX7_sum_ 19 = .ok (.iaload, 1) := by decide +kernel
theorem dX7_sum__20 : decode cX7_sum_ 20 = .ok (.bipush 15, 2) := by decide +kernel
theorem dX7_sum__22 : decode cX7_sum_ 22 = .ok (.iand, 1) := by decide +kernel
theorem dX7_sum__23 : decode cX7_sum_ 23 = .ok (.iload_n 1, 1) := by decide +kernel
theorem dX7_sum__24 : decode cX7_sum_ 24 = .ok (.bipush 15, 2) := by decide +kernel
theorem dX7_sum__26 : decode cX7_sum_ 26 = .ok (.iand, 1) := by decide +kernel
theorem dX7_sum__27 : decode cX7_sum_ 27 = .ok (.iadd, 1) := by decide +kernel
theorem dX7_sum__28 : decode cX7_sum_ 28 = .ok (.iload_n 2, 1) := by decide +kernel
theorem dX7_sum__29 : decode cX7_sum_ 29 = .ok (.iadd, 1) := by decide +kernel
theorem dX7_sum__30 : decode cX7_sum_ 30 = .ok (.bipush 15, 2) := by decide +kernel
theorem dX7_sum__32 : decode cX7_sum_ 32 = .ok (.if_icmp .le 7, 3) := by decide +kernel
theorem dX7_sum__35 : decode cX7_sum_ 35 = .ok (.iconst 1, 1) := by decide +kernel
theorem dX7_sum__36 : decode cX7_sum_ 36 = .ok (.goto 4, 3) := by decide +kernel
theorem dX7_sum__39 : decode cX7_sum_ 39 = .ok (.iconst 0, 1) := by decide +kernel
theorem dX7_sum__40 : decode cX7_sum_ 40 = .ok (.putfield 74, 3) := by decide +kernel
theorem dX7_sum__43 : decode cX7_sum_ 43 = .ok (.aload_n 0, 1) := by decide +kernel
theorem dX7_sum__44 : decode cX7_sum_ 44 = .ok (.iload_n 3, 1) := by decide +kernel
theorem dX7_sum__45 : decode cX7_sum_ 45 = .ok (.sipush 255, 3) := by decide +kernel
theorem dX7_sum__48 : decode cX7_sum_ 48 = .ok (.if_icmp .le 7, 3) := by decide +kernel
theorem dX7_sum__51 : decode cX7_sum_ 51 = .ok (.iconst 1, 1) := by decide +kernel
theorem dX7_sum__52 : decode cX7_sum_ 52 = .ok (.goto 4, 3) := by decide +kernel
theorem dX7_sum__55 : decode cX7_sum_ 55 = .ok (.iconst 0, 1) := by decide +kernel
theorem dX7_sum__56 : decode cX7_sum_ 56 = .ok (.putfield 80, 3) := by decide +kernel
theorem dX7_sum__59 : decode cX7_sum_ 59 = .ok (.aload_n 0, 1) := by decide +kernel
theorem dX7_sum__60 : decode cX7_sum_ 60 = .ok (.getfield 16, 3) := by decide +kernel
theorem dX7_sum__63 : decode cX7_sum_ 63 = .ok (.bipush 7, 2) := by decide +kernel
theorem dX7_sum__65 : decode cX7_sum_ 65 = .ok (.iload_n 3, 1) := by decide +kernel
theorem dX7_sum__66 : decode cX7_sum_ 66 = .ok (.sipush 255, 3) := by decide +kernel
theorem dX7_sum__69 : decode cX7_sum_ 69 = .ok (.iand, 1) := by decide +kernel
theorem dX7_sum__70 : decode cX7_sum_ 70 = .ok (.iastore, 1) := by decide +kernel
theorem dX7_sum__71 : decode cX7_sum_ 71 = .ok (.aload_n 0, 1) := by decide +kernel
theorem dX7_sum__72 : decode cX7_sum_ 72 = .ok (.aload_n 0, 1) := by decide +kernel
theorem dX7_sum__73 : decode cX7_sum_ 73 = .ok (.getfield 16, 3) := by decide +kernel
theorem dX7_sum__76 : decode cX7_sum_ 76 = .ok (.bipush 7, 2) := by decide +kernel
theorem dX7_sum__78 : decode cX7_sum_ 78 = .ok (.iaload, 1) := by decide +kernel
theorem dX7_sum__79 : decode cX7_sum_ 79 = .ok (.invokevirtual 90, 3) := by decide +kernel
theorem dX7_sum__82 : decode cX7_sum_ 82 = .ok (.return_, 1) := by decide +kernel
set_option maxRecDepth 20000 in
theorem ggX7_less_X7_logic : GoodIn wsX7_less wsX7_logic := goodIn_r _ [8, 9, 10, 11, 12, 13, 14, 15, 16, 17, 18, 19, 20, 21, 22, 23, 24, 25, 26, 27, 28, 29, 30, 31, 32, 33, 34, 35, 36, 37, 38, 39, 40, 41] (by decide +kernel) (by decide +kernel)
set_option maxRecDepth 20000 in
theorem gX7_less_X7_logic : GoodIn wsX7_less (wsV RX7 90 RX7 yX7_logic wsX7_logic) := goodIn_app (goodIn_of _ (by decide +kernel)) ggX7_less_X7_logic
theorem dX7_less_0 : decode cX7_less 0 = .ok (.aload_n 0, 1) := by decide +kernel
theorem dX7_less_1 : decode cX7_less 1 = .ok (.getfield 16, 3) := by decide +kernel
theorem dX7_less_4 : decode cX7_less 4 = .ok (.bipush 7, 2) := by decide +kernel
theorem dX7_less_6 : decode cX7_less 6 = .ok (.iaload, 1) := by decide +kernel
theorem dX7_less_7 : decode cX7_less 7 = .ok (.iload_n 1, 1) := by decide +kernel
theorem dX7_less_8 : decode cX7_less 8 = .ok (.isub, 1) := by decide +kernel
theorem dX7_less_9 : decode cX7_less 9 = .ok (.iload_n 2, 1) := by decide +kernel
theorem dX7_less_10 : decode cX7_less 10 = .ok (.isub, 1) := by decide +kernel
theorem dX7_less_11 : decode cX7_less 11 = .ok (.istore_n 3, 1) := by decide +kernel
theorem dX7_less_12 : decode cX7_less 12 = .ok (.aload_n 0, 1) := by decide +kernel
theorem dX7_less_13 : decode cX7_less 13 = .ok (.aload_n 0, 1) := by decide +kernel
theorem dX7_less_14 : decode cX7_less 14 = .ok (.getfield 16, 3) := by decide +kernel
theorem dX7_less_17 : decode cX7_less 17 = .ok (.bipush 7, 2) := by decide +kernel
theorem dX7_less_19 : decode cX7_less 19 = .ok (.iaload, 1) := by decide +kernel
theorem dX7_less_20 : decode cX7_less 20 = .ok (.bipush 15, 2) := by decide +kernel
theorem dX7_less_22 : decode cX7_less 22 = .ok (.iand, 1) := by decide +kernel
theorem dX7_less_23 : decode cX7_less 23 = .ok (.iload_n 1, 1) := by decide +kernel
theorem dX7_less_24 : decode cX7_less 24 = .ok (.bipush 15, 2) := by decide +kernel
theorem dX7_less_26 : decode cX7_less 26 = .ok (.iand, 1) := by decide +kernel
theorem dX7_less_27 : decode cX7_less 27 = .ok (.isub, 1) := by decide +kernel
theorem dX7_less_28 : decode cX7_less 28 = .ok (.iload_n 2, 1) := by decide +kernel
theorem dX7_less_29 : decode cX7_less 29 = .ok (.isub, 1) := by decide +kernel
theorem dX7_less_30 : decode cX7_less 30 = .ok (.ifCond .lt 7, 3) := by decide +kernel
theorem dX7_less_33 : decode cX7_less 33 = .ok (.iconst 1, 1) := by decide +kernel
theorem dX7_less_34 : decode cX7_less 34 = .ok (.goto 4, 3) := by decide +kernel
theorem dX7_less_37 : decode cX7_less 37 = .ok (.iconst 0, 1) := by decide +kernel
theorem dX7_less_38 : decode cX7_less 38 = .ok (.putfield 74, 3) := by decide +kernel
theorem dX7_less_41 : decode cX7_less 41 = .ok (.aload_n 0, 1) := by decide +kernel
theorem dX7_less_42 : decode cX7_less 42 = .ok (.iload_n 3, 1) := by decide +kernel
theorem dX7_less_43 : decode cX7_less 43 = .ok (.ifCond .ge 7, 3) := by decide +kernel
theorem dX7_less_46 : decode cX7_less 46 = .ok (.iconst 1, 1) := by decide +kernel
theorem dX7_less_47 : decode cX7_less 47 = .ok (.goto 4, 3) := by decide +kernel
theorem dX7_less_50 : decode cX7_less 50 = .ok (.iconst 0, 1) := by decide +kernel
theorem dX7_less_51 : decode cX7_less 51 = .ok (.putfield 80, 3) := by decide +kernel
theorem dX7_less_54 : decode cX7_less 54 = .ok (.aload_n 0, 1) := by decide +kernel
theorem dX7_less_55 : decode cX7_less 55 = .ok (.iload_n 3, 1) := by decide +kernel
theorem dX7_less_56 : decode cX7_less 56 = .ok (.sipush 255, 3) := by decide +kernel
theorem dX7_less_59 : decode cX7_less 59 = .ok (.iand, 1) := by decide +kernel
theorem dX7_less_60 : decode cX7_less 60 = .ok (.invokevirtual 90, 3) := by decide +kernel
theorem dX7_less_63 : decode cX7_less 63 = .ok (.iload_n 3, 1) := by decide +kernel
theorem dX7_less_64 : decode cX7_less 64 = .ok (.sipush 255, 3) := by decide +kernel
theorem dX7_less_67 : decode cX7_less 67 = .ok (.iand, 1) := by decide +kernel
theorem dX7_less_68 : decode cX7_less 68 = .ok (.ireturn, 1) := by decide +kernel
set_option maxRecDepth 20000 in
theorem ggX7_reckon_X7_sum_ : GoodIn wsX7_reckon wsX7_sum_ := goodIn_r _ [8, 1, 3, 2, 9, 10, 11, 7, 12, 13, 14, 15, 20, 21, 22, 23, 24, 25, 26, 27, 28, 29, 30, 31, 32, 33, 34, 35, 36, 37, 38, 39, 40, 41, 42, 43, 44, 45, 46, 47, 48, 49] (by decide +kernel) (by decide +kernel)
set_option maxRecDepth 20000 in
theorem gX7_reckon_X7_sum_ : GoodIn wsX7_reckon (wsV RX7 93 RX7 yX7_sum_ wsX7_sum_) := goodIn_app (goodIn_of _ (by decide +kernel)) ggX7_reckon_X7_sum_
set_option maxRecDepth 20000 in
theorem ggX7_reckon_X7_less : GoodIn wsX7_reckon wsX7_less := goodIn_r _ [19, 1, 3, 2, 9, 10, 11, 7, 12, 13, 14, 15, 20, 21, 22, 23, 24, 25, 26, 27, 28, 29, 30, 31, 32, 33, 34, 35, 36, 37, 38, 39, 40, 41, 42, 43, 44, 45, 46, 47, 48, 49] (by decide +kernel) (by decide +kernel)
set_option maxRecDepth 20000 in
theorem gX7_reckon_X7_less : GoodIn wsX7_reckon (wsV RX7 96 RX7 yX7_less wsX7_less) := goodIn_app (goodIn_of _ (by decide +kernel)) ggX7_reckon_X7_less
set_option maxRecDepth 20000 in
theorem ggX7_reckon_X7_logic : GoodIn wsX7_reckon wsX7_logic := goodIn_r _ [12, 13, 14, 15, 20, 21, 22, 23, 24, 25, 26, 27, 28, 29, 30, 31, 32, 33, 34, 35, 36, 37, 38, 39, 40, 41, 42, 43, 44, 45, 46, 47, 48, 49] (by decide +kernel) (by decide +kernel)
set_option maxRecDepth 20000 in
theorem gX7_reckon_X7_logic : GoodIn wsX7_reckon (wsV RX7 90 RX7 yX7_logic wsX7_logic) := goodIn_app (goodIn_of _ (by decide +kernel)) ggX7_reckon_X7_logic
theorem dX7_reckon_0 : decode cX7_reckon 0 = .ok (.aload_n 0, 1) := by decide +kernel
theorem dX7_reckon_1 : decode cX7_reckon 1 = .ok (.getfield 16, 3) := by decide +kernel
theorem dX7_reckon_4 : decode cX7_reckon 4 = .ok (.bipush 7, 2) := by decide +kernel
theorem dX7_reckon_6 : decode cX7_reckon 6 = .ok (.iaload, 1) := by decide +kernel
theorem dX7_reckon_7 : decode cX7_reckon 7 = .ok (.istore_n 3, 1) := by decide +kernel
theorem dX7_reckon_8 : decode cX7_reckon 8 = .ok (.aload_n 0, 1) := by decide +kernel
theorem dX7_reckon_9 : decode cX7_reckon 9 = .ok (.getfield 80, 3) := by decide +kernel
theorem dX7_reckon_12 : decode cX7_reckon 12 = .ok (.ifCond .eq 7, 3) := by decide +kernel
theorem dX7_reckon_15 : decode cX7_reckon 15 = .ok (.iconst 1, 1) := by decide +kernel
theorem dX7_reckon_16 : decode cX7_reckon 16 = .ok (.goto 4, 3) := by decide +kernel
theorem dX7_reckon_19 : decode cX7_reckon 19 = .ok (.iconst 0, 1) := by decide +kernel
theorem dX7_reckon_20 : decode cX7_reckon 20 = .ok (.istore 4, 2) := by decide +kernel
theorem dX7_reckon_22 : decode cX7_reckon 22 = .ok (.iload_n 1, 1) := by decide +kernel
theorem dX7_reckon_23 : decode cX7_reckon 23 = .ok (.tableswitch 108 0 7 #[45, 54, 64, 80, 108, 108, 108, 97], 45) := by decide +kernel
theorem dX7_reckon_68 : decode cX7_reckon 68 = .ok (.aload_n 0, 1) := by decide +kernel
theorem dX7_reckon_69 : decode cX7_reckon 69 = .ok (.iload_n 2, 1) := by decide +kernel
theorem dX7_reckon_70 : decode cX7_reckon 70 = .ok (.iconst 0, 1) := by decide +kernel
theorem dX7_reckon_71 : decode cX7_reckon 71 = .ok (.invokevirtual 93, 3) := by decide +kernel
theorem dX7_reckon_74 : decode cX7_reckon 74 = .ok (.goto 128, 3) := by decide +kernel
theorem dX7_reckon_77 : decode cX7_reckon 77 = .ok (.aload_n 0, 1) := by decide +kernel
theorem dX7_reckon_78 : decode cX7_reckon 78 = .ok (.iload_n 2, 1) := by decide +kernel
theorem dX7_reckon_79 : decode cX7_reckon 79 = .ok (.iload 4, 2) := by decide +kernel
theorem dX7_reckon_81 : decode cX7_reckon 81 = .ok (.invokevirtual 93, 3) := by decide +kernel
theorem dX7_reckon_84 : decode cX7_reckon 84 = .ok (.goto 118, 3) := by decide +kernel
theorem dX7_reckon_87 : decode cX7_reckon 87 = .ok (.aload_n 0, 1) := by decide +kernel
theorem dX7_reckon_88 : decode cX7_reckon 88 = .ok (.getfield 16, 3) := by decide +kernel
theorem dX7_reckon_91 : decode cX7_reckon 91 = .ok (.bipush 7, 2) := by decide +kernel
theorem dX7_reckon_93 : decode cX7_reckon 93 = .ok (.aload_n 0, 1) := by decide +kernel
theorem dX7_reckon_94 : decode cX7_reckon 94 = .ok (.iload_n 2, 1) := by decide +kernel
theorem dX7_reckon_95 : decode cX7_reckon 95 = .ok (.iconst 0, 1) := by decide +kernel
theorem dX7_reckon_96 : decode cX7_reckon 96 = .ok (.invokevirtual 96, 3) := by decide +kernel
theorem dX7_reckon_99 : decode cX7_reckon 99 = .ok (.iastore, 1) := by decide +kernel
theorem dX7_reckon_100 : decode cX7_reckon 100 = .ok (.goto 102, 3) := by decide +kernel
theorem dX7_reckon_103 : decode cX7_reckon 103 = .ok (.aload_n 0, 1) := by decide +kernel
theorem dX7_reckon_104 : decode cX7_reckon 104 = .ok (.getfield 16, 3) := by decide +kernel
theorem dX7_reckon_107 : decode cX7_reckon 107 = .ok (.bipush 7, 2) := by decide +kernel
theorem dX7_reckon_109 : decode cX7_reckon 109 = .ok (.aload_n 0, 1) := by decide +kernel
theorem dX7_reckon_110 : decode cX7_reckon 110 = .ok (.iload_n 2, 1) := by decide +kernel
theorem dX7_reckon_111 : decode cX7_reckon 111 = .ok (.iload 4, 2) := by decide +kernel
theorem dX7_reckon_113 : decode cX7_reckon 113 = .ok (.invokevirtual 96, 3) := by decide +kernel
theorem dX7_reckon_116 : decode cX7_reckon 116 = .ok (.iastore, 1) := by decide +kernel
theorem dX7_reckon_117 : decode cX7_reckon 117 = .ok (.goto 85, 3) := by decide +kernel
theorem dX7_reckon_120 : decode cX7_reckon 120 = .ok (.aload_n 0, 1) := by decide +kernel
theorem dX7_reckon_121 : decode cX7_reckon 121 = .ok (.iload_n 2, 1) := by decide +kernel
theorem dX7_reckon_122 : decode cX7_reckon 122 = .ok (.iconst 0, 1) := by decide +kernel
theorem dX7_reckon_123 : decode cX7_reckon 123 = .ok (.invokevirtual 96, 3) := by decide +kernel
theorem dX7_reckon_126 : decode cX7_reckon 126 = .ok (.istore 5, 2) := by decide +kernel
theorem dX7_reckon_128 : decode cX7_reckon 128 = .ok (.goto 74, 3) := by decide +kernel
theorem dX7_reckon_131 : decode cX7_reckon 131 = .ok (.aload_n 0, 1) := by decide +kernel
theorem dX7_reckon_132 : decode cX7_reckon 132 = .ok (.getfield 16, 3) := by decide +kernel
theorem dX7_reckon_135 : decode cX7_reckon 135 = .ok (.bipush 7, 2) := by decide +kernel
theorem dX7_reckon_137 : decode cX7_reckon 137 = .ok (.iload_n 1, 1) := by decide +kernel
theorem dX7_reckon_138 : decode cX7_reckon 138 = .ok (.iconst 4, 1) := by decide +kernel
theorem dX7_reckon_139 : decode cX7_reckon 139 = .ok (.if_icmp .ne 9, 3) := by decide +kernel
theorem dX7_reckon_142 : decode cX7_reckon 142 = .ok (.iload_n 3, 1) := by decide +kernel
theorem dX7_reckon_143 : decode cX7_reckon 143 = .ok (.iload_n 2, 1) := by decide +kernel
theorem dX7_reckon_144 : decode cX7_reckon 144 = .ok (.iand, 1) := by decide +kernel
theorem dX7_reckon_145 : decode cX7_reckon 145 = .ok (.goto 17, 3) := by decide +kernel
theorem dX7_reckon_148 : decode cX7_reckon 148 = .ok (.iload_n 1, 1) := by decide +kernel
theorem dX7_reckon_149 : decode cX7_reckon 149 = .ok (.iconst 5, 1) := by decide +kernel
theorem dX7_reckon_150 : decode cX7_reckon 150 = .ok (.if_icmp .ne 9, 3) := by decide +kernel
theorem dX7_reckon_153 : decode cX7_reckon 153 = .ok (.iload_n 3, 1) := by decide +kernel
theorem dX7_reckon_154 : decode cX7_reckon 154 = .ok (.iload_n 2, 1) := by decide +kernel
theorem dX7_reckon_155 : decode cX7_reckon 155 = .ok (.ixor, 1) := by decide +kernel
theorem dX7_reckon_156 : decode cX7_reckon 156 = .ok (.goto 6, 3) := by decide +kernel
theorem dX7_reckon_159 : decode cX7_reckon 159 = .ok (.iload_n 3, 1) := by decide +kernel
theorem dX7_reckon_160 : decode cX7_reckon 160 = .ok (.iload_n 2, 1) := by decide +kernel
theorem dX7_reckon_161 : decode cX7_reckon 161 = .ok (.ior, 1) := by decide +kernel
theorem dX7_reckon_162 : decode cX7_reckon 162 = .ok (.iastore, 1) := by decide +kernel
theorem dX7_reckon_163 : decode cX7_reckon 163 = .ok (.aload_n 0, 1) := by decide +kernel
theorem dX7_reckon_164 : decode cX7_reckon 164 = .ok (.iconst 0, 1) := by decide +kernel
theorem dX7_reckon_165 : decode cX7_reckon 165 = .ok (.putfield 80, 3) := by decide +kernel
theorem dX7_reckon_168 : decode cX7_reckon 168 = .ok (.aload_n 0, 1) := by decide +kernel
theorem dX7_reckon_169 : decode cX7_reckon 169 = .ok (.iload_n 1, 1) := by decide +kernel
theorem dX7_reckon_170 : decode cX7_reckon 170 = .ok (.iconst 4, 1) := by decide +kernel
theorem dX7_reckon_171 : decode cX7_reckon 171 = .ok (.if_icmp .ne 16, 3) := by decide +kernel
theorem dX7_reckon_174 : decode cX7_reckon 174 = .ok (.iload_n 3, 1) := by decide +kernel
theorem dX7_reckon_175 : decode cX7_reckon 175 = .ok (.iload_n 2, 1) := by decide +kernel
theorem dX7_reckon_176 : decode cX7_reckon 176 = .ok (.ior, 1) := by decide +kernel
theorem dX7_reckon_177 : decode cX7_reckon 177 = .ok (.bipush 8, 2) := by decide +kernel
theorem dX7_reckon_179 : decode cX7_reckon 179 = .ok (.iand, 1) := by decide +kernel
theorem dX7_reckon_180 : decode cX7_reckon 180 = .ok (.ifCond .eq 7, 3) := by decide +kernel
theorem dX7_reckon_183 : decode cX7_reckon 183 = .ok (.iconst 1, 1) := by decide +kernel
theorem dX7_reckon_184 : decode cX7_reckon 184 = .ok (.goto 4, 3) := by decide +kernel
theorem dX7_reckon_187 : decode cX7_reckon 187 = .ok (.iconst 0, 1) := by decide +kernel
theorem dX7_reckon_188 : decode cX7_reckon 188 = .ok (.putfield 74, 3) := by decide +kernel
theorem dX7_reckon_191 : decode cX7_reckon 191 = .ok (.aload_n 0, 1) := by decide +kernel
theorem dX7_reckon_192 : decode cX7_reckon 192 = .ok (.aload_n 0, 1) := by decide +kernel
theorem dX7_reckon_193 : decode cX7_reckon 193 = .ok (.getfield 16, 3) := by decide +kernel
theorem dX7_reckon_196 : decode cX7_reckon 196 = .ok (.bipush 7, 2) := by decide +kernel
theorem dX7_reckon_198 : decode cX7_reckon 198 = .ok (.iaload, 1) := by decide +kernel
theorem dX7_reckon_199 : decode cX7_reckon 199 = .ok (.invokevirtual 90, 3) := by decide +kernel
theorem dX7_reckon_202 : decode cX7_reckon 202 = .ok (.return_, 1) := by decide +kernel
set_option maxRecDepth 20000 in
theorem ggX7_adjust_X7_logic : GoodIn wsX7_adjust wsX7_logic := goodIn_r _ [8, 9, 10, 11, 12, 13, 14, 15, 16, 17, 18, 19, 20, 21, 22, 23, 24, 25, 26, 27, 28, 29, 30, 31, 32, 33, 34, 35, 36, 37, 38, 39, 40, 41] (by decide +kernel) (by decide +kernel)
set_option maxRecDepth 20000 in
theorem gX7_adjust_X7_logic : GoodIn wsX7_adjust (wsV RX7 90 RX7 yX7_logic wsX7_logic) := goodIn_app (goodIn_of _ (by decide +kernel)) ggX7_adjust_X7_logic
theorem dX7_adjust_0 : decode cX7_adjust 0 = .ok (.aload_n 0, 1) := by decide +kernel
theorem dX7_adjust_1 : decode cX7_adjust 1 = .ok (.getfield 16, 3) := by decide +kernel
theorem dX7_adjust_4 : decode cX7_adjust 4 = .ok (.bipush 7, 2) := by decide +kernel
theorem dX7_adjust_6 : decode cX7_adjust 6 = .ok (.iaload, 1) := by decide +kernel
theorem dX7_adjust_7 : decode cX7_adjust 7 = .ok (.bipush 15, 2) := by decide +kernel
theorem dX7_adjust_9 : decode cX7_adjust 9 = .ok (.iand, 1) := by decide +kernel
theorem dX7_adjust_10 : decode cX7_adjust 10 = .ok (.istore_n 1, 1) := by decide +kernel
theorem dX7_adjust_11 : decode cX7_adjust 11 = .ok (.aload_n 0, 1) := by decide +kernel
theorem dX7_adjust_12 : decode cX7_adjust 12 = .ok (.getfield 16, 3) := by decide +kernel
theorem dX7_adjust_15 : decode cX7_adjust 15 = .ok (.bipush 7, 2) := by decide +kernel
theorem dX7_adjust_17 : decode cX7_adjust 17 = .ok (.iaload, 1) := by decide +kernel
theorem dX7_adjust_18 : decode cX7_adjust 18 = .ok (.iconst 4, 1) := by decide +kernel
theorem dX7_adjust_19 : decode cX7_adjust 19 = .ok (.ishr, 1) := by decide +kernel
theorem dX7_adjust_20 : decode cX7_adjust 20 = .ok (.istore_n 2, 1) := by decide +kernel
theorem dX7_adjust_21 : decode cX7_adjust 21 = .ok (.iload_n 2, 1) := by decide +kernel
theorem dX7_adjust_22 : decode cX7_adjust 22 = .ok (.bipush 9, 2) := by decide +kernel
theorem dX7_adjust_24 : decode cX7_adjust 24 = .ok (.if_icmp .gt 22, 3) := by decide +kernel
theorem dX7_adjust_27 : decode cX7_adjust 27 = .ok (.aload_n 0, 1) := by decide +kernel
theorem dX7_adjust_28 : decode cX7_adjust 28 = .ok (.getfield 80, 3) := by decide +kernel
theorem dX7_adjust_31 : decode cX7_adjust 31 = .ok (.ifCond .ne 15, 3) := by decide +kernel
theorem dX7_adjust_34 : decode cX7_adjust 34 = .ok (.iload_n 2, 1) := by decide +kernel
theorem dX7_adjust_35 : decode cX7_adjust 35 = .ok (.bipush 9, 2) := by decide +kernel
theorem dX7_adjust_37 : decode cX7_adjust 37 = .ok (.if_icmp .ne 13, 3) := by decide +kernel
theorem dX7_adjust_40 : decode cX7_adjust 40 = .ok (.iload_n 1, 1) := by decide +kernel
theorem dX7_adjust_41 : decode cX7_adjust 41 = .ok (.bipush 9, 2) := by decide +kernel
theorem dX7_adjust_43 : decode cX7_adjust 43 = .ok (.if_icmp .le 7, 3) := by decide +kernel
theorem dX7_adjust_46 : decode cX7_adjust 46 = .ok (.iconst 1, 1) := by decide +kernel
theorem dX7_adjust_47 : decode cX7_adjust 47 = .ok (.goto 4, 3) := by decide +kernel
theorem dX7_adjust_50 : decode cX7_adjust 50 = .ok (.iconst 0, 1) := by decide +kernel
theorem dX7_adjust_51 : decode cX7_adjust 51 = .ok (.istore_n 3, 1) := by decide +kernel
theorem dX7_adjust_52 : decode cX7_adjust 52 = .ok (.aload_n 0, 1) := by decide +kernel
theorem dX7_adjust_53 : decode cX7_adjust 53 = .ok (.getfield 16, 3) := by decide +kernel
theorem dX7_adjust_56 : decode cX7_adjust 56 = .ok (.bipush 7, 2) := by decide +kernel
theorem dX7_adjust_58 : decode cX7_adjust 58 = .ok (.iaload, 1) := by decide +kernel
theorem dX7_adjust_59 : decode cX7_adjust 59 = .ok (.istore 4, 2) := by decide +kernel
theorem dX7_adjust_61 : decode cX7_adjust 61 = .ok (.iload_n 1, 1) := by decide +kernel
theorem dX7_adjust_62 : decode cX7_adjust 62 = .ok (.bipush 9, 2) := by decide +kernel
theorem dX7_adjust_64 : decode cX7_adjust 64 = .ok (.if_icmp .gt 10, 3) := by decide +kernel
theorem dX7_adjust_67 : decode cX7_adjust 67 = .ok (.aload_n 0, 1) := by decide +kernel
theorem dX7_adjust_68 : decode cX7_adjust 68 = .ok (.getfield 74, 3) := by decide +kernel
theorem dX7_adjust_71 : decode cX7_adjust 71 = .ok (.ifCond .eq 31, 3) := by decide +kernel
theorem dX7_adjust_74 : decode cX7_adjust 74 = .ok (.iload 4, 2) := by decide +kernel
theorem dX7_adjust_76 : decode cX7_adjust 76 = .ok (.bipush 6, 2) := by decide +kernel
theorem dX7_adjust_78 : decode cX7_adjust 78 = .ok (.iadd, 1) := by decide +kernel
theorem dX7_adjust_79 : decode cX7_adjust 79 = .ok (.istore 4, 2) := by decide +kernel
theorem dX7_adjust_81 : decode cX7_adjust 81 = .ok (.aload_n 0, 1) := by decide +kernel
theorem dX7_adjust_82 : decode cX7_adjust 82 = .ok (.iload_n 1, 1) := by decide +kernel
theorem dX7_adjust_83 : decode cX7_adjust 83 = .ok (.bipush 6, 2) := by decide +kernel
theorem dX7_adjust_85 : decode cX7_adjust 85 = .ok (.iadd, 1) := by decide +kernel
theorem dX7_adjust_86 : decode cX7_adjust 86 = .ok (.bipush 15, 2) := by decide +kernel
theorem dX7_adjust_88 : decode cX7_adjust 88 = .ok (.if_icmp .le 7, 3) := by decide +kernel
theorem dX7_adjust_91 : decode cX7_adjust 91 = .ok (.iconst 1, 1) := by decide +kernel
theorem dX7_adjust_92 : decode cX7_adjust 92 = .ok (.goto 4, 3) := by decide +kernel
theorem dX7_adjust_95 : decode cX7_adjust 95 = .ok (.iconst 0, 1) := by decide +kernel
theorem dX7_adjust_96 : decode cX7_adjust 96 = .ok (.putfield 74, 3) := by decide +kernel
theorem dX7_adjust_99 : decode cX7_adjust 99 = .ok (.goto 8, 3) := by decide +kernel
theorem dX7_adjust_102 : decode cX7_adjust 102 = .ok (.aload_n 0, 1) := by decide +kernel
theorem dX7_adjust_103 : decode cX7_adjust 103 = .ok (.iconst 0, 1) := by decide +kernel
theorem dX7_adjust_104 : decode cX7_adjust 104 = .ok (.putfield 74, 3) := by decide +kernel
theorem dX7_adjust_107 : decode cX7_adjust 107 = .ok (.iload_n 3, 1) := by decide +kernel
theorem dX7_adjust_108 : decode cX7_adjust 108 = .ok (.ifCond .eq 15, 3) := by decide +kernel
theorem dX7_adjust_111 : decode cX7_adjust 111 = .ok (.iload 4, 2) := by decide +kernel
theorem dX7_adjust_113 : decode cX7_adjust 113 = .ok (.bipush 96, 2) := by decide +kernel
theorem dX7_adjust_115 : decode cX7_adjust 115 = .ok (.iadd, 1) := by decide +kernel
theorem dX7_adjust_116 : decode cX7_adjust 116 = .ok (.istore 4, 2) := by decide +kernel
theorem dX7_adjust_118 : decode cX7_adjust 118 = .ok (.aload_n 0, 1) := by decide +kernel
theorem dX7_adjust_119 : decode cX7_adjust 119 = .ok (.iconst 1, 1) := by decide +kernel
theorem dX7_adjust_120 : decode cX7_adjust 120 = .ok (.putfield 80, 3) := by decide +kernel
theorem dX7_adjust_123 : decode cX7_adjust 123 = .ok (.aload_n 0, 1) := by decide +kernel
theorem dX7_adjust_124 : decode cX7_adjust 124 = .ok (.getfield 16, 3) := by decide +kernel
theorem dX7_adjust_127 : decode cX7_adjust 127 = .ok (.bipush 7, 2) := by decide +kernel
theorem dX7_adjust_129 : decode cX7_adjust 129 = .ok (.iload 4, 2) := by decide +kernel
theorem dX7_adjust_131 : decode cX7_adjust 131 = .ok (.sipush 255, 3) := by decide +kernel
theorem dX7_adjust_134 : decode cX7_adjust 134 = .ok (.iand, 1) := by decide +kernel
theorem dX7_adjust_135 : decode cX7_adjust 135 = .ok (.iastore, 1) := by decide +kernel
theorem dX7_adjust_136 : decode cX7_adjust 136 = .ok (.aload_n 0, 1) := by decide +kernel
theorem dX7_adjust_137 : decode cX7_adjust 137 = .ok (.aload_n 0, 1) := by decide +kernel
theorem dX7_adjust_138 : decode cX7_adjust 138 = .ok (.getfield 16, 3) := by decide +kernel
theorem dX7_adjust_141 : decode cX7_adjust 141 = .ok (.bipush 7, 2) := by decide +kernel
theorem dX7_adjust_143 : decode cX7_adjust 143 = .ok (.iaload, 1) := by decide +kernel
theorem dX7_adjust_144 : decode cX7_adjust 144 = .ok (.invokevirtual 90, 3) := by decide +kernel
theorem dX7_adjust_147 : decode cX7_adjust 147 = .ok (.return_, 1) := by decide +kernel
set_option maxRecDepth 20000 in
theorem ggX7_turn_X7_adjust : GoodIn wsX7_turn wsX7_adjust := goodIn_r _ [7, 1, 2, 8, 9, 10, 11, 6, 12, 13, 14, 15, 16, 17, 18, 19, 20, 21, 22, 23, 24, 25, 26, 27, 28, 29, 30, 31, 32, 33, 34, 35, 36, 37, 38, 39, 40, 41, 42, 43, 44, 45] (by decide +kernel) (by decide +kernel)
set_option maxRecDepth 20000 in
theorem gX7_turn_X7_adjust : GoodIn wsX7_turn (wsV RX7 100 RX7 yX7_adjust wsX7_adjust) := goodIn_app (goodIn_of _ (by decide +kernel)) ggX7_turn_X7_adjust
theorem dX7_turn_0 : decode cX7_turn 0 = .ok (.aload_n 0, 1) := by decide +kernel
theorem dX7_turn_1 : decode cX7_turn 1 = .ok (.getfield 16, 3) := by decide +kernel
theorem dX7_turn_4 : decode cX7_turn 4 = .ok (.bipush 7, 2) := by decide +kernel
theorem dX7_turn_6 : decode cX7_turn 6 = .ok (.iaload, 1) := by decide +kernel
theorem dX7_turn_7 : decode cX7_turn 7 = .ok (.istore_n 2, 1) := by decide +kernel
theorem dX7_turn_8 : decode cX7_turn 8 = .ok (.aload_n 0, 1) := by decide +kernel
theorem dX7_turn_9 : decode cX7_turn 9 = .ok (.getfield 80, 3) := by decide +kernel
theorem dX7_turn_12 : decode cX7_turn 12 = .ok (.ifCond .eq 7, 3) := by decide +kernel
theorem dX7_turn_15 : decode cX7_turn 15 = .ok (.iconst 1, 1) := by decide +kernel
theorem dX7_turn_16 : decode cX7_turn 16 = .ok (.goto 4, 3) := by decide +kernel
theorem dX7_turn_19 : decode cX7_turn 19 = .ok (.iconst 0, 1) := by decide +kernel
theorem dX7_turn_20 : decode cX7_turn 20 = .ok (.istore_n 3, 1) := by decide +kernel
theorem dX7_turn_21 : decode cX7_turn 21 = .ok (.iload_n 1, 1) := by decide +kernel
theorem dX7_turn_22 : decode cX7_turn 22 = .ok (.tableswitch 213 0 6 #[42, 79, 115, 149, 183, 190, 205], 42) := by decide +kernel
theorem dX7_turn_64 : decode cX7_turn 64 = .ok (.aload_n 0, 1) := by decide +kernel
theorem dX7_turn_65 : decode cX7_turn 65 = .ok (.iload_n 2, 1) := by decide +kernel
theorem dX7_turn_66 : decode cX7_turn 66 = .ok (.bipush 127, 2) := by decide +kernel
theorem dX7_turn_68 : decode cX7_turn 68 = .ok (.if_icmp .le 7, 3) := by decide +kernel
theorem dX7_turn_71 : decode cX7_turn 71 = .ok (.iconst 1, 1) := by decide +kernel
theorem dX7_turn_72 : decode cX7_turn 72 = .ok (.goto 4, 3) := by decide +kernel
theorem dX7_turn_75 : decode cX7_turn 75 = .ok (.iconst 0, 1) := by decide +kernel
theorem dX7_turn_76 : decode cX7_turn 76 = .ok (.putfield 80, 3) := by decide +kernel
theorem dX7_turn_79 : decode cX7_turn 79 = .ok (.aload_n 0, 1) := by decide +kernel
theorem dX7_turn_80 : decode cX7_turn 80 = .ok (.getfield 16, 3) := by decide +kernel
theorem dX7_turn_83 : decode cX7_turn 83 = .ok (.bipush 7, 2) := by decide +kernel
theorem dX7_turn_85 : decode cX7_turn 85 = .ok (.iload_n 2, 1) := by decide +kernel
theorem dX7_turn_86 : decode cX7_turn 86 = .ok (.iconst 1, 1) := by decide +kernel
theorem dX7_turn_87 : decode cX7_turn 87 = .ok (.ishl, 1) := by decide +kernel
theorem dX7_turn_88 : decode cX7_turn 88 = .ok (.sipush 255, 3) := by decide +kernel
theorem dX7_turn_91 : decode cX7_turn 91 = .ok (.iand, 1) := by decide +kernel
theorem dX7_turn_92 : decode cX7_turn 92 = .ok (.iload_n 2, 1) := by decide +kernel
theorem dX7_turn_93 : decode cX7_turn 93 = .ok (.bipush 7, 2) := by decide +kernel
theorem dX7_turn_95 : decode cX7_turn 95 = .ok (.ishr, 1) := by decide +kernel
theorem dX7_turn_96 : decode cX7_turn 96 = .ok (.ior, 1) := by decide +kernel
theorem dX7_turn_97 : decode cX7_turn 97 = .ok (.iastore, 1) := by decide +kernel
theorem dX7_turn_98 : decode cX7_turn 98 = .ok (.goto 153, 3) := by decide +kernel
theorem dX7_turn_101 : decode cX7_turn 101 = .ok (.aload_n 0, 1) := by decide +kernel
theorem dX7_turn_102 : decode cX7_turn 102 = .ok (.iload_n 2, 1) := by decide +kernel
theorem dX7_turn_103 : decode cX7_turn 103 = .ok (.iconst 1, 1) := by decide +kernel
theorem dX7_turn_104 : decode cX7_turn 104 = .ok (.iand, 1) := by decide +kernel
theorem dX7_turn_105 : decode cX7_turn 105 = .ok (.iconst 1, 1) := by decide +kernel
theorem dX7_turn_106 : decode cX7_turn 106 = .ok (.if_icmp .ne 7, 3) := by decide +kernel
theorem dX7_turn_109 : decode cX7_turn 109 = .ok (.iconst 1, 1) := by decide +kernel
theorem dX7_turn_110 : decode cX7_turn 110 = .ok (.goto 4, 3) := by decide +kernel
theorem dX7_turn_113 : decode cX7_turn 113 = .ok (.iconst 0, 1) := by decide +kernel
theorem dX7_turn_114 : decode cX7_turn 114 = .ok (.putfield 80, 3) := by decide +kernel
theorem dX7_turn_117 : decode cX7_turn 117 = .ok (.aload_n 0, 1) := by decide +kernel
theorem dX7_turn_118 : decode cX7_turn 118 = .ok (.getfield 16, 3) := by decide +kernel
theorem dX7_turn_121 : decode cX7_turn 121 = .ok (.bipush 7, 2) := by decide +kernel
theorem dX7_turn_123 : decode cX7_turn 123 = .ok (.iload_n 2, 1) := by decide +kernel
theorem dX7_turn_124 : decode cX7_turn 124 = .ok (.iconst 1, 1) := by decide +kernel
theorem dX7_turn_125 : decode cX7_turn 125 = .ok (.ishr, 1) := by decide +kernel
theorem dX7_turn_126 : decode cX7_turn 126 = .ok (.iload_n 2, 1) := by decide +kernel
theorem dX7_turn_127 : decode cX7_turn 127 = .ok (.iconst 1, 1) := by decide +kernel
theorem dX7_turn_128 : decode cX7_turn 128 = .ok (.iand, 1) := by decide +kernel
theorem dX7_turn_129 : decode cX7_turn 129 = .ok (.bipush 7, 2) := by decide +kernel
theorem dX7_turn_131 : decode cX7_turn 131 = .ok (.ishl, 1) := by decide +kernel
theorem dX7_turn_132 : decode cX7_turn 132 = .ok (.ior, 1) := by decide +kernel
theorem dX7_turn_133 : decode cX7_turn 133 = .ok (.iastore, 1) := by decide +kernel
theorem dX7_turn_134 : decode cX7_turn 134 = .ok (.goto 117, 3) := by decide +kernel
theorem dX7_turn_137 : decode cX7_turn 137 = .ok (.aload_n 0, 1) := by decide +kernel
theorem dX7_turn_138 : decode cX7_turn 138 = .ok (.iload_n 2, 1) := by decide +kernel
theorem dX7_turn_139 : decode cX7_turn 139 = .ok (.bipush 127, 2) := by decide +kernel
theorem dX7_turn_141 : decode cX7_turn 141 = .ok (.if_icmp .le 7, 3) := by decide +kernel
theorem dX7_turn_144 : decode cX7_turn 144 = .ok (.iconst 1, 1) := by decide +kernel
theorem dX7_turn_145 : decode cX7_turn 145 = .ok (.goto 4, 3) := by decide +kernel
theorem dX7_turn_148 : decode cX7_turn 148 = .ok (.iconst 0, 1) := by decide +kernel
theorem dX7_turn_149 : decode cX7_turn 149 = .ok (.putfield 80, 3) := by decide +kernel
theorem dX7_turn_152 : decode cX7_turn 152 = .ok (.aload_n 0, 1) := by decide +kernel
theorem dX7_turn_153 : decode cX7_turn 153 = .ok (.getfield 16, 3) := by decide +kernel
theorem dX7_turn_156 : decode cX7_turn 156 = .ok (.bipush 7, 2) := by decide +kernel
theorem dX7_turn_158 : decode cX7_turn 158 = .ok (.iload_n 2, 1) := by decide +kernel
theorem dX7_turn_159 : decode cX7_turn 159 = .ok (.iconst 1, 1) := by decide +kernel
theorem dX7_turn_160 : decode cX7_turn 160 = .ok (.ishl, 1) := by decide +kernel
theorem dX7_turn_161 : decode cX7_turn 161 = .ok (.sipush 255, 3) := by decide +kernel
