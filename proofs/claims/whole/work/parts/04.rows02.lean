theorem dX4_init_40 : decode cX4_init 40 = .ok (.putfield 31, 3) := by decide +kernel
theorem dX4_init_43 : decode cX4_init 43 = .ok (.aload_n 0, 1) := by decide +kernel
theorem dX4_init_44 : decode cX4_init 44 = .ok (.aload_n 1, 1) := by decide +kernel
theorem dX4_init_45 : decode cX4_init 45 = .ok (.putfield 35, 3) := by decide +kernel
theorem dX4_init_48 : decode cX4_init 48 = .ok (.aload_n 0, 1) := by decide +kernel
theorem dX4_init_49 : decode cX4_init 49 = .ok (.aload_n 2, 1) := by decide +kernel
theorem dX4_init_50 : decode cX4_init 50 = .ok (.putfield 39, 3) := by decide +kernel
theorem dX4_init_53 : decode cX4_init 53 = .ok (.aload_n 0, 1) := by decide +kernel
theorem dX4_init_54 : decode cX4_init 54 = .ok (.aload_n 3, 1) := by decide +kernel
theorem dX4_init_55 : decode cX4_init 55 = .ok (.putfield 43, 3) := by decide +kernel
theorem dX4_init_58 : decode cX4_init 58 = .ok (.return_, 1) := by decide +kernel
theorem dX4_shows_0 : decode cX4_shows 0 = .ok (.iload_n 0, 1) := by decide +kernel
theorem dX4_shows_1 : decode cX4_shows 1 = .ok (.ifCond .lt 13, 3) := by decide +kernel
theorem dX4_shows_4 : decode cX4_shows 4 = .ok (.iload_n 0, 1) := by decide +kernel
theorem dX4_shows_5 : decode cX4_shows 5 = .ok (.bipush 9, 2) := by decide +kernel
theorem dX4_shows_7 : decode cX4_shows 7 = .ok (.if_icmp .gt 7, 3) := by decide +kernel
theorem dX4_shows_10 : decode cX4_shows 10 = .ok (.iconst 1, 1) := by decide +kernel
theorem dX4_shows_11 : decode cX4_shows 11 = .ok (.goto 4, 3) := by decide +kernel
theorem dX4_shows_14 : decode cX4_shows 14 = .ok (.iconst 0, 1) := by decide +kernel
theorem dX4_shows_15 : decode cX4_shows 15 = .ok (.ireturn, 1) := by decide +kernel
set_option maxRecDepth 20000 in
theorem ggX4_shown_X3_packed : GoodIn wsX4_shown wsX3_packed := goodIn_r _ [9, 10, 11, 12, 13, 14, 28, 29, 30, 31, 32] (by decide +kernel) (by decide +kernel)
set_option maxRecDepth 20000 in
theorem gX4_shown_X3_packed : GoodIn wsX4_shown (wsV RX4 47 RX3 yX3_packed wsX3_packed) := goodIn_app (goodIn_of _ (by decide +kernel)) ggX4_shown_X3_packed
theorem dX4_shown_0 : decode cX4_shown 0 = .ok (.iload_n 1, 1) := by decide +kernel
theorem dX4_shown_1 : decode cX4_shown 1 = .ok (.tableswitch 49 6 9 #[31, 49, 39, 44], 31) := by decide +kernel
theorem dX4_shown_32 : decode cX4_shown 32 = .ok (.aload_n 0, 1) := by decide +kernel
theorem dX4_shown_33 : decode cX4_shown 33 = .ok (.getfield 12, 3) := by decide +kernel
theorem dX4_shown_36 : decode cX4_shown 36 = .ok (.invokevirtual 47, 3) := by decide +kernel
theorem dX4_shown_39 : decode cX4_shown 39 = .ok (.ireturn, 1) := by decide +kernel
theorem dX4_shown_40 : decode cX4_shown 40 = .ok (.aload_n 0, 1) := by decide +kernel
theorem dX4_shown_41 : decode cX4_shown 41 = .ok (.getfield 51, 3) := by decide +kernel
theorem dX4_shown_44 : decode cX4_shown 44 = .ok (.ireturn, 1) := by decide +kernel
theorem dX4_shown_45 : decode cX4_shown 45 = .ok (.aload_n 0, 1) := by decide +kernel
theorem dX4_shown_46 : decode cX4_shown 46 = .ok (.getfield 54, 3) := by decide +kernel
theorem dX4_shown_49 : decode cX4_shown 49 = .ok (.ireturn, 1) := by decide +kernel
theorem dX4_shown_50 : decode cX4_shown 50 = .ok (.aload_n 0, 1) := by decide +kernel
theorem dX4_shown_51 : decode cX4_shown 51 = .ok (.getfield 27, 3) := by decide +kernel
theorem dX4_shown_54 : decode cX4_shown 54 = .ok (.iload_n 1, 1) := by decide +kernel
theorem dX4_shown_55 : decode cX4_shown 55 = .ok (.bipush 7, 2) := by decide +kernel
theorem dX4_shown_57 : decode cX4_shown 57 = .ok (.iand, 1) := by decide +kernel
theorem dX4_shown_58 : decode cX4_shown 58 = .ok (.iaload, 1) := by decide +kernel
theorem dX4_shown_59 : decode cX4_shown 59 = .ok (.ireturn, 1) := by decide +kernel
set_option maxRecDepth 20000 in
theorem ggX4_change_X3_unpack : GoodIn wsX4_change wsX3_unpack := goodIn_r _ [10, 11, 12, 13, 14, 15, 29, 30, 31, 32, 33] (by decide +kernel) (by decide +kernel)
set_option maxRecDepth 20000 in
theorem gX4_change_X3_unpack : GoodIn wsX4_change (wsV RX4 57 RX3 yX3_unpack wsX3_unpack) := goodIn_app (goodIn_of _ (by decide +kernel)) ggX4_change_X3_unpack
theorem dX4_change_0 : decode cX4_change 0 = .ok (.iload_n 1, 1) := by decide +kernel
theorem dX4_change_1 : decode cX4_change 1 = .ok (.tableswitch 64 6 9 #[31, 64, 42, 53], 31) := by decide +kernel
theorem dX4_change_32 : decode cX4_change 32 = .ok (.aload_n 0, 1) := by decide +kernel
theorem dX4_change_33 : decode cX4_change 33 = .ok (.getfield 12, 3) := by decide +kernel
theorem dX4_change_36 : decode cX4_change 36 = .ok (.iload_n 2, 1) := by decide +kernel
theorem dX4_change_37 : decode cX4_change 37 = .ok (.invokevirtual 57, 3) := by decide +kernel
theorem dX4_change_40 : decode cX4_change 40 = .ok (.goto 39, 3) := by decide +kernel
theorem dX4_change_43 : decode cX4_change 43 = .ok (.aload_n 0, 1) := by decide +kernel
theorem dX4_change_44 : decode cX4_change 44 = .ok (.iload_n 2, 1) := by decide +kernel
theorem dX4_change_45 : decode cX4_change 45 = .ok (.ldc 61, 2) := by decide +kernel
theorem dX4_change_47 : decode cX4_change 47 = .ok (.iand, 1) := by decide +kernel
theorem dX4_change_48 : decode cX4_change 48 = .ok (.putfield 51, 3) := by decide +kernel
theorem dX4_change_51 : decode cX4_change 51 = .ok (.goto 28, 3) := by decide +kernel
theorem dX4_change_54 : decode cX4_change 54 = .ok (.aload_n 0, 1) := by decide +kernel
theorem dX4_change_55 : decode cX4_change 55 = .ok (.iload_n 2, 1) := by decide +kernel
theorem dX4_change_56 : decode cX4_change 56 = .ok (.ldc 61, 2) := by decide +kernel
theorem dX4_change_58 : decode cX4_change 58 = .ok (.iand, 1) := by decide +kernel
theorem dX4_change_59 : decode cX4_change 59 = .ok (.putfield 54, 3) := by decide +kernel
theorem dX4_change_62 : decode cX4_change 62 = .ok (.goto 17, 3) := by decide +kernel
theorem dX4_change_65 : decode cX4_change 65 = .ok (.aload_n 0, 1) := by decide +kernel
theorem dX4_change_66 : decode cX4_change 66 = .ok (.getfield 27, 3) := by decide +kernel
theorem dX4_change_69 : decode cX4_change 69 = .ok (.iload_n 1, 1) := by decide +kernel
theorem dX4_change_70 : decode cX4_change 70 = .ok (.bipush 7, 2) := by decide +kernel
theorem dX4_change_72 : decode cX4_change 72 = .ok (.iand, 1) := by decide +kernel
theorem dX4_change_73 : decode cX4_change 73 = .ok (.iload_n 2, 1) := by decide +kernel
theorem dX4_change_74 : decode cX4_change 74 = .ok (.sipush 255, 3) := by decide +kernel
theorem dX4_change_77 : decode cX4_change 77 = .ok (.iand, 1) := by decide +kernel
theorem dX4_change_78 : decode cX4_change 78 = .ok (.iastore, 1) := by decide +kernel
theorem dX4_change_79 : decode cX4_change 79 = .ok (.return_, 1) := by decide +kernel
theorem dX4_callWith_0 : decode cX4_callWith 0 = .ok (.aload_n 0, 1) := by decide +kernel
theorem dX4_callWith_1 : decode cX4_callWith 1 = .ok (.iload_n 1, 1) := by decide +kernel
theorem dX4_callWith_2 : decode cX4_callWith 2 = .ok (.putfield 31, 3) := by decide +kernel
theorem dX4_callWith_5 : decode cX4_callWith 5 = .ok (.return_, 1) := by decide +kernel
theorem dX4_isHalted_0 : decode cX4_isHalted 0 = .ok (.aload_n 0, 1) := by decide +kernel
theorem dX4_isHalted_1 : decode cX4_isHalted 1 = .ok (.getfield 62, 3) := by decide +kernel
theorem dX4_isHalted_4 : decode cX4_isHalted 4 = .ok (.ireturn, 1) := by decide +kernel
theorem dX4_hasInterruptsOn_0 : decode cX4_hasInterruptsOn 0 = .ok (.aload_n 0, 1) := by decide +kernel
theorem dX4_hasInterruptsOn_1 : decode cX4_hasInterruptsOn 1 = .ok (.getfield 66, 3) := by decide +kernel
theorem dX4_hasInterruptsOn_4 : decode cX4_hasInterruptsOn 4 = .ok (.ireturn, 1) := by decide +kernel
theorem dX4_wantedInterrupt_0 : decode cX4_wantedInterrupt 0 = .ok (.aload_n 0, 1) := by decide +kernel
theorem dX4_wantedInterrupt_1 : decode cX4_wantedInterrupt 1 = .ok (.getfield 31, 3) := by decide +kernel
theorem dX4_wantedInterrupt_4 : decode cX4_wantedInterrupt 4 = .ok (.ireturn, 1) := by decide +kernel
theorem dX4_cyclesDone_0 : decode cX4_cyclesDone 0 = .ok (.aload_n 0, 1) := by decide +kernel
theorem dX4_cyclesDone_1 : decode cX4_cyclesDone 1 = .ok (.getfield 69, 3) := by decide +kernel
theorem dX4_cyclesDone_4 : decode cX4_cyclesDone 4 = .ok (.lreturn, 1) := by decide +kernel
set_option maxRecDepth 20000 in
theorem ggX4_turn_X4_answerInterrupt : GoodIn wsX4_turn wsX4_answerInterrupt := goodIn_r _ [11, 1, 2, 4, 12, 13, 14, 15, 10, 16, 17, 18, 19, 20, 21, 22, 23, 24, 25, 308, 309, 310, 311, 312, 313, 314, 315, 316, 317, 318, 319, 320, 321] (by decide +kernel) (by decide +kernel)
set_option maxRecDepth 20000 in
theorem gX4_turn_X4_answerInterrupt : GoodIn wsX4_turn (wsV RX4 76 RX4 yX4_answerInterrupt wsX4_answerInterrupt) := goodIn_app (goodIn_of _ (by decide +kernel)) ggX4_turn_X4_answerInterrupt
set_option maxRecDepth 20000 in
theorem ggX4_turn_X4_instruction : GoodIn wsX4_turn wsX4_instruction := goodIn_r _ [29, 3, 30, 31, 32, 33, 34, 10, 35, 19, 12, 18, 36, 37, 38, 23, 39, 25, 40, 41, 42, 43, 44, 45, 46, 47, 48, 49, 50, 51, 52, 53, 54, 55, 56, 57, 58, 59, 60, 17, 61, 62, 63, 64, 65, 66, 67, 68, 69, 70, 71, 72, 73, 74, 75, 76, 77, 78, 20, 21, 22, 24, 79, 80, 81, 82, 83, 84, 85, 86, 87, 88, 89, 90, 91, 92, 93, 94, 95, 96, 97, 98, 99, 100, 101, 102, 103, 104, 105, 106, 107, 108, 109, 110, 111, 112, 113, 114, 115, 116, 117, 118, 119, 120, 121, 122, 123, 124, 125, 126, 127, 128, 129, 130, 131, 132, 133, 134, 135, 136, 137, 138, 139, 140, 141, 142, 143, 144, 145, 146, 147, 148, 149, 150, 151, 152, 4, 153, 154, 155, 156, 157, 158, 159, 160, 161, 162, 163, 164, 165, 166, 167, 168, 169, 170, 171, 172, 173, 174, 175, 176, 177, 178, 179, 180, 181, 182, 183, 184, 185, 186, 187, 188, 189, 190, 191, 192, 193, 194, 195, 196, 197, 198, 199, 200, 201, 202, 203, 204, 2, 205, 206, 207, 208, 209, 6, 210, 211, 212, 213, 214, 215, 216, 217, 218, 219, 220, 221, 222, 223, 224, 225, 226, 227, 228, 229, 230, 231, 232, 233, 234, 235, 236, 237, 238, 239, 240, 241, 242, 243, 244, 245, 246, 247, 248, 249, 250, 251, 252, 253, 254, 255, 256, 257, 258, 259, 260, 261, 262, 263, 264, 265, 266, 267, 268, 269, 270, 271, 272, 273, 274, 275, 276, 277, 278, 279, 280, 281, 282, 13, 14, 15, 16, 283, 284, 285, 286, 287, 288, 289, 290, 308, 309, 310, 311, 312, 313, 314, 315, 316, 317, 318, 319, 320, 321, 322, 323, 324, 325, 326, 327, 328, 329, 330, 331, 332, 333, 334, 335, 336, 337, 338, 339, 340, 341, 342, 343] (by decide +kernel) (by decide +kernel)
set_option maxRecDepth 20000 in
theorem gX4_turn_X4_instruction : GoodIn wsX4_turn (wsV RX4 79 RX4 yX4_instruction wsX4_instruction) := goodIn_app (goodIn_of _ (by decide +kernel)) ggX4_turn_X4_instruction
set_option maxRecDepth 20000 in
theorem ggX4_turn_X2_letPass : GoodIn wsX4_turn wsX2_letPass := goodIn_r _ [294, 247, 246, 245, 248, 249, 250, 220, 251, 242, 295, 296, 297, 298, 243, 244, 299, 300, 227, 301, 302, 37, 38, 23, 39, 25, 303, 76, 77, 78, 304, 305, 306, 307, 237, 333, 334, 335, 336, 337, 338, 339, 340, 341, 342, 343, 321] (by decide +kernel) (by decide +kernel)
set_option maxRecDepth 20000 in
theorem gX4_turn_X2_letPass : GoodIn wsX4_turn (wsV RX4 82 RX2 yX2_letPass wsX2_letPass) := goodIn_app (goodIn_of _ (by decide +kernel)) ggX4_turn_X2_letPass
theorem dX4_turn_0 : decode cX4_turn 0 = .ok (.aload_n 0, 1) := by decide +kernel
theorem dX4_turn_1 : decode cX4_turn 1 = .ok (.getfield 31, 3) := by decide +kernel
theorem dX4_turn_4 : decode cX4_turn 4 = .ok (.iconst (-1), 1) := by decide +kernel
theorem dX4_turn_5 : decode cX4_turn 5 = .ok (.if_icmp .eq 25, 3) := by decide +kernel
theorem dX4_turn_8 : decode cX4_turn 8 = .ok (.aload_n 0, 1) := by decide +kernel
theorem dX4_turn_9 : decode cX4_turn 9 = .ok (.getfield 66, 3) := by decide +kernel
theorem dX4_turn_12 : decode cX4_turn 12 = .ok (.ifCond .eq 18, 3) := by decide +kernel
theorem dX4_turn_15 : decode cX4_turn 15 = .ok (.aload_n 0, 1) := by decide +kernel
theorem dX4_turn_16 : decode cX4_turn 16 = .ok (.getfield 73, 3) := by decide +kernel
theorem dX4_turn_19 : decode cX4_turn 19 = .ok (.ifCond .ne 11, 3) := by decide +kernel
theorem dX4_turn_22 : decode cX4_turn 22 = .ok (.aload_n 0, 1) := by decide +kernel
theorem dX4_turn_23 : decode cX4_turn 23 = .ok (.invokevirtual 76, 3) := by decide +kernel
theorem dX4_turn_26 : decode cX4_turn 26 = .ok (.istore_n 1, 1) := by decide +kernel
theorem dX4_turn_27 : decode cX4_turn 27 = .ok (.goto 20, 3) := by decide +kernel
theorem dX4_turn_30 : decode cX4_turn 30 = .ok (.aload_n 0, 1) := by decide +kernel
theorem dX4_turn_31 : decode cX4_turn 31 = .ok (.getfield 62, 3) := by decide +kernel
theorem dX4_turn_34 : decode cX4_turn 34 = .ok (.ifCond .eq 8, 3) := by decide +kernel
theorem dX4_turn_37 : decode cX4_turn 37 = .ok (.iconst 4, 1) := by decide +kernel
theorem dX4_turn_38 : decode cX4_turn 38 = .ok (.istore_n 1, 1) := by decide +kernel
theorem dX4_turn_39 : decode cX4_turn 39 = .ok (.goto 8, 3) := by decide +kernel
theorem dX4_turn_42 : decode cX4_turn 42 = .ok (.aload_n 0, 1) := by decide +kernel
theorem dX4_turn_43 : decode cX4_turn 43 = .ok (.invokevirtual 79, 3) := by decide +kernel
theorem dX4_turn_46 : decode cX4_turn 46 = .ok (.istore_n 1, 1) := by decide +kernel
theorem dX4_turn_47 : decode cX4_turn 47 = .ok (.aload_n 0, 1) := by decide +kernel
theorem dX4_turn_48 : decode cX4_turn 48 = .ok (.dup, 1) := by decide +kernel
theorem dX4_turn_49 : decode cX4_turn 49 = .ok (.getfield 69, 3) := by decide +kernel
theorem dX4_turn_52 : decode cX4_turn 52 = .ok (.iload_n 1, 1) := by decide +kernel
theorem dX4_turn_53 : decode cX4_turn 53 = .ok (.i2l, 1) := by decide +kernel
theorem dX4_turn_54 : decode cX4_turn 54 = .ok (.ladd, 1) := by decide +kernel
theorem dX4_turn_55 : decode cX4_turn 55 = .ok (.putfield 69, 3) := by decide +kernel
theorem dX4_turn_58 : decode cX4_turn 58 = .ok (.aload_n 0, 1) := by decide +kernel
theorem dX4_turn_59 : decode cX4_turn 59 = .ok (.getfield 43, 3) := by decide +kernel
theorem dX4_turn_62 : decode cX4_turn 62 = .ok (.iload_n 1, 1) := by decide +kernel
theorem dX4_turn_63 : decode cX4_turn 63 = .ok (.invokevirtual 82, 3) := by decide +kernel
theorem dX4_turn_66 : decode cX4_turn 66 = .ok (.istore_n 2, 1) := by decide +kernel
theorem dX4_turn_67 : decode cX4_turn 67 = .ok (.iload_n 2, 1) := by decide +kernel
theorem dX4_turn_68 : decode cX4_turn 68 = .ok (.iconst (-1), 1) := by decide +kernel
theorem dX4_turn_69 : decode cX4_turn 69 = .ok (.if_icmp .eq 8, 3) := by decide +kernel
theorem dX4_turn_72 : decode cX4_turn 72 = .ok (.aload_n 0, 1) := by decide +kernel
theorem dX4_turn_73 : decode cX4_turn 73 = .ok (.iload_n 2, 1) := by decide +kernel
theorem dX4_turn_74 : decode cX4_turn 74 = .ok (.putfield 31, 3) := by decide +kernel
theorem dX4_turn_77 : decode cX4_turn 77 = .ok (.iload_n 1, 1) := by decide +kernel
theorem dX4_turn_78 : decode cX4_turn 78 = .ok (.ireturn, 1) := by decide +kernel
set_option maxRecDepth 20000 in
theorem ggX4_answerInterrupt_X4_push : GoodIn wsX4_answerInterrupt wsX4_push := goodIn_r _ [9, 10, 11, 12, 13, 14, 15, 16, 17, 18, 19, 20, 21, 22, 23, 24, 25, 26, 27, 28, 29, 30, 31, 32] (by decide +kernel) (by decide +kernel)
set_option maxRecDepth 20000 in
theorem gX4_answerInterrupt_X4_push : GoodIn wsX4_answerInterrupt (wsV RX4 88 RX4 yX4_push wsX4_push) := goodIn_app (goodIn_of _ (by decide +kernel)) ggX4_answerInterrupt_X4_push
theorem dX4_answerInterrupt_0 : decode cX4_answerInterrupt 0 = .ok (.aload_n 0, 1) := by decide +kernel
theorem dX4_answerInterrupt_1 : decode cX4_answerInterrupt 1 = .ok (.getfield 31, 3) := by decide +kernel
theorem dX4_answerInterrupt_4 : decode cX4_answerInterrupt 4 = .ok (.istore_n 1, 1) := by decide +kernel
theorem dX4_answerInterrupt_5 : decode cX4_answerInterrupt 5 = .ok (.aload_n 0, 1) := by decide +kernel
theorem dX4_answerInterrupt_6 : decode cX4_answerInterrupt 6 = .ok (.iconst (-1), 1) := by decide +kernel
theorem dX4_answerInterrupt_7 : decode cX4_answerInterrupt 7 = .ok (.putfield 31, 3) := by decide +kernel
theorem dX4_answerInterrupt_10 : decode cX4_answerInterrupt 10 = .ok (.aload_n 0, 1) := by decide +kernel
theorem dX4_answerInterrupt_11 : decode cX4_answerInterrupt 11 = .ok (.iconst 0, 1) := by decide +kernel
theorem dX4_answerInterrupt_12 : decode cX4_answerInterrupt 12 = .ok (.putfield 66, 3) := by decide +kernel
theorem dX4_answerInterrupt_15 : decode cX4_answerInterrupt 15 = .ok (.aload_n 0, 1) := by decide +kernel
theorem dX4_answerInterrupt_16 : decode cX4_answerInterrupt 16 = .ok (.iconst 0, 1) := by decide +kernel
theorem dX4_answerInterrupt_17 : decode cX4_answerInterrupt 17 = .ok (.putfield 62, 3) := by decide +kernel
theorem dX4_answerInterrupt_20 : decode cX4_answerInterrupt 20 = .ok (.aload_n 0, 1) := by decide +kernel
theorem dX4_answerInterrupt_21 : decode cX4_answerInterrupt 21 = .ok (.aload_n 0, 1) := by decide +kernel
theorem dX4_answerInterrupt_22 : decode cX4_answerInterrupt 22 = .ok (.getfield 51, 3) := by decide +kernel
theorem dX4_answerInterrupt_25 : decode cX4_answerInterrupt 25 = .ok (.invokevirtual 88, 3) := by decide +kernel
theorem dX4_answerInterrupt_28 : decode cX4_answerInterrupt 28 = .ok (.aload_n 0, 1) := by decide +kernel
theorem dX4_answerInterrupt_29 : decode cX4_answerInterrupt 29 = .ok (.bipush 8, 2) := by decide +kernel
theorem dX4_answerInterrupt_31 : decode cX4_answerInterrupt 31 = .ok (.iload_n 1, 1) := by decide +kernel
theorem dX4_answerInterrupt_32 : decode cX4_answerInterrupt 32 = .ok (.imul, 1) := by decide +kernel
theorem dX4_answerInterrupt_33 : decode cX4_answerInterrupt 33 = .ok (.putfield 51, 3) := by decide +kernel
theorem dX4_answerInterrupt_36 : decode cX4_answerInterrupt 36 = .ok (.bipush 11, 2) := by decide +kernel
theorem dX4_answerInterrupt_38 : decode cX4_answerInterrupt 38 = .ok (.ireturn, 1) := by decide +kernel
set_option maxRecDepth 20000 in
theorem ggX4_instruction_X4_nextByte : GoodIn wsX4_instruction wsX4_nextByte := goodIn_r _ [8, 9, 10, 11, 12, 13, 14, 15, 16, 17, 281, 282, 283, 284, 285, 286, 287, 288, 289, 290, 291, 292, 293, 294] (by decide +kernel) (by decide +kernel)
set_option maxRecDepth 20000 in
theorem gX4_instruction_X4_nextByte : GoodIn wsX4_instruction (wsV RX4 91 RX4 yX4_nextByte wsX4_nextByte) := goodIn_app (goodIn_of _ (by decide +kernel)) ggX4_instruction_X4_nextByte
set_option maxRecDepth 20000 in
theorem ggX4_instruction_X4_firstQuarter : GoodIn wsX4_instruction wsX4_firstQuarter := goodIn_r _ [21, 3, 2, 22, 23, 24, 7, 25, 26, 11, 27, 28, 29, 30, 9, 10, 31, 32, 33, 15, 34, 17, 35, 36, 37, 38, 39, 40, 41, 42, 43, 44, 45, 46, 47, 48, 49, 50, 51, 52, 53, 54, 55, 56, 57, 12, 13, 14, 16, 58, 59, 60, 61, 62, 63, 64, 65, 66, 67, 68, 69, 70, 71, 72, 73, 74, 75, 76, 77, 78, 79, 80, 81, 82, 83, 84, 85, 86, 87, 88, 89, 90, 91, 92, 93, 94, 95, 96, 97, 98, 99, 100, 101, 102, 4, 5, 6, 8, 103, 104, 105, 106, 107, 108, 109, 110, 111, 112, 113, 114, 115, 116, 117, 118, 119, 120, 121, 122, 123, 124, 125, 126, 127, 128, 129, 130, 131, 281, 282, 283, 284, 285, 286, 287, 288, 289, 290, 291, 292, 293, 294, 295, 296, 297, 298, 299, 300] (by decide +kernel) (by decide +kernel)
set_option maxRecDepth 20000 in
theorem gX4_instruction_X4_firstQuarter : GoodIn wsX4_instruction (wsV RX4 94 RX4 yX4_firstQuarter wsX4_firstQuarter) := goodIn_app (goodIn_of _ (by decide +kernel)) ggX4_instruction_X4_firstQuarter
set_option maxRecDepth 20000 in
theorem ggX4_instruction_X4_transfer : GoodIn wsX4_instruction wsX4_transfer := goodIn_r _ [135, 136, 66, 67, 68, 7, 69, 9, 2, 40, 41, 42, 43, 39, 12, 13, 14, 15, 16, 17, 95, 96, 97, 98, 54, 55, 56, 57, 281, 282, 283, 284, 285, 286, 287, 288, 289, 290, 291, 292, 293, 294] (by decide +kernel) (by decide +kernel)
set_option maxRecDepth 20000 in
theorem gX4_instruction_X4_transfer : GoodIn wsX4_instruction (wsV RX4 98 RX4 yX4_transfer wsX4_transfer) := goodIn_app (goodIn_of _ (by decide +kernel)) ggX4_instruction_X4_transfer
set_option maxRecDepth 20000 in
theorem ggX4_instruction_X4_value : GoodIn wsX4_instruction wsX4_value := goodIn_r _ [69, 9, 2, 40, 41, 42, 7, 43, 39, 12, 13, 14, 15, 16, 17, 281, 282, 283, 284, 285, 286, 287, 288, 289, 290, 291, 292, 293, 294] (by decide +kernel) (by decide +kernel)
set_option maxRecDepth 20000 in
theorem gX4_instruction_X4_value : GoodIn wsX4_instruction (wsV RX4 101 RX4 yX4_value wsX4_value) := goodIn_app (goodIn_of _ (by decide +kernel)) ggX4_instruction_X4_value
set_option maxRecDepth 20000 in
theorem ggX4_instruction_X0_combine : GoodIn wsX4_instruction wsX0_combine := goodIn_r _ [140, 75, 141, 142, 143, 73, 144, 111, 45, 46, 47, 48, 49, 76, 77, 78, 79, 80, 81, 82, 83, 84, 85, 86, 87, 88, 89, 90, 91, 92, 93, 94, 116, 117, 118, 119, 145, 146, 147, 148, 149, 150, 151, 152, 300, 295, 296, 297, 298, 299] (by decide +kernel) (by decide +kernel)
set_option maxRecDepth 20000 in
theorem gX4_instruction_X0_combine : GoodIn wsX4_instruction (wsV RX4 104 RX0 yX0_combine wsX0_combine) := goodIn_app (goodIn_of _ (by decide +kernel)) ggX4_instruction_X0_combine
set_option maxRecDepth 20000 in
theorem ggX4_instruction_X4_lastQuarter : GoodIn wsX4_instruction wsX4_lastQuarter := goodIn_r _ [156, 26, 2, 3, 10, 157, 158, 159, 7, 160, 161, 162, 163, 47, 164, 86, 49, 87, 85, 165, 166, 167, 168, 9, 39, 11, 31, 32, 33, 15, 34, 17, 169, 170, 171, 172, 40, 41, 42, 43, 173, 174, 175, 176, 177, 178, 179, 180, 80, 35, 36, 37, 38, 181, 182, 183, 184, 27, 28, 29, 30, 185, 186, 187, 188, 189, 1, 4, 5, 6, 8, 12, 13, 14, 16, 190, 191, 192, 193, 194, 195, 196, 197, 198, 199, 200, 201, 202, 203, 204, 205, 206, 207, 208, 209, 210, 211, 212, 213, 214, 215, 216, 217, 218, 219, 220, 221, 222, 223, 224, 225, 226, 227, 228, 229, 230, 231, 232, 233, 234, 235, 236, 237, 238, 239, 240, 241, 242, 243, 244, 245, 246, 247, 248, 249, 250, 251, 252, 253, 254, 255, 256, 257, 258, 259, 260, 58, 59, 60, 61, 261, 262, 263, 264, 265, 266, 267, 268, 269, 270, 271, 272, 273, 274, 275, 276, 277, 278, 279, 280, 137, 138, 139, 73, 140, 75, 141, 142, 143, 144, 111, 45, 46, 48, 76, 77, 78, 79, 81, 82, 83, 84, 88, 89, 90, 91, 92, 93, 94, 116, 117, 118, 119, 145, 146, 147, 148, 149, 150, 151, 152, 281, 282, 283, 284, 285, 286, 287, 288, 289, 290, 291, 292, 293, 295, 296, 297, 298, 299, 294, 301, 302, 303, 304, 305, 306, 307, 308, 309, 310, 311, 312, 313, 314, 315, 316, 300] (by decide +kernel) (by decide +kernel)
set_option maxRecDepth 20000 in
theorem gX4_instruction_X4_lastQuarter : GoodIn wsX4_instruction (wsV RX4 108 RX4 yX4_lastQuarter wsX4_lastQuarter) := goodIn_app (goodIn_of _ (by decide +kernel)) ggX4_instruction_X4_lastQuarter
theorem dX4_instruction_0 : decode cX4_instruction 0 = .ok (.aload_n 0, 1) := by decide +kernel
theorem dX4_instruction_1 : decode cX4_instruction 1 = .ok (.iconst 0, 1) := by decide +kernel
theorem dX4_instruction_2 : decode cX4_instruction 2 = .ok (.putfield 73, 3) := by decide +kernel
theorem dX4_instruction_5 : decode cX4_instruction 5 = .ok (.aload_n 0, 1) := by decide +kernel
theorem dX4_instruction_6 : decode cX4_instruction 6 = .ok (.invokevirtual 91, 3) := by decide +kernel
theorem dX4_instruction_9 : decode cX4_instruction 9 = .ok (.istore_n 1, 1) := by decide +kernel
theorem dX4_instruction_10 : decode cX4_instruction 10 = .ok (.iload_n 1, 1) := by decide +kernel
theorem dX4_instruction_11 : decode cX4_instruction 11 = .ok (.iconst 3, 1) := by decide +kernel
theorem dX4_instruction_12 : decode cX4_instruction 12 = .ok (.ishr, 1) := by decide +kernel
theorem dX4_instruction_13 : decode cX4_instruction 13 = .ok (.bipush 7, 2) := by decide +kernel
theorem dX4_instruction_15 : decode cX4_instruction 15 = .ok (.iand, 1) := by decide +kernel
theorem dX4_instruction_16 : decode cX4_instruction 16 = .ok (.istore_n 2, 1) := by decide +kernel
theorem dX4_instruction_17 : decode cX4_instruction 17 = .ok (.iload_n 1, 1) := by decide +kernel
theorem dX4_instruction_18 : decode cX4_instruction 18 = .ok (.bipush 7, 2) := by decide +kernel
theorem dX4_instruction_20 : decode cX4_instruction 20 = .ok (.iand, 1) := by decide +kernel
theorem dX4_instruction_21 : decode cX4_instruction 21 = .ok (.istore_n 3, 1) := by decide +kernel
theorem dX4_instruction_22 : decode cX4_instruction 22 = .ok (.iload_n 1, 1) := by decide +kernel
theorem dX4_instruction_23 : decode cX4_instruction 23 = .ok (.bipush 6, 2) := by decide +kernel
theorem dX4_instruction_25 : decode cX4_instruction 25 = .ok (.ishr, 1) := by decide +kernel
theorem dX4_instruction_26 : decode cX4_instruction 26 = .ok (.tableswitch 80 0 2 #[26, 33, 40], 26) := by decide +kernel
theorem dX4_instruction_52 : decode cX4_instruction 52 = .ok (.aload_n 0, 1) := by decide +kernel
theorem dX4_instruction_53 : decode cX4_instruction 53 = .ok (.iload_n 2, 1) := by decide +kernel
theorem dX4_instruction_54 : decode cX4_instruction 54 = .ok (.iload_n 3, 1) := by decide +kernel
theorem dX4_instruction_55 : decode cX4_instruction 55 = .ok (.invokevirtual 94, 3) := by decide +kernel
theorem dX4_instruction_58 : decode cX4_instruction 58 = .ok (.ireturn, 1) := by decide +kernel
theorem dX4_instruction_59 : decode cX4_instruction 59 = .ok (.aload_n 0, 1) := by decide +kernel
theorem dX4_instruction_60 : decode cX4_instruction 60 = .ok (.iload_n 2, 1) := by decide +kernel
theorem dX4_instruction_61 : decode cX4_instruction 61 = .ok (.iload_n 3, 1) := by decide +kernel
theorem dX4_instruction_62 : decode cX4_instruction 62 = .ok (.invokevirtual 98, 3) := by decide +kernel
theorem dX4_instruction_65 : decode cX4_instruction 65 = .ok (.ireturn, 1) := by decide +kernel
theorem dX4_instruction_66 : decode cX4_instruction 66 = .ok (.aload_n 0, 1) := by decide +kernel
theorem dX4_instruction_67 : decode cX4_instruction 67 = .ok (.getfield 27, 3) := by decide +kernel
theorem dX4_instruction_70 : decode cX4_instruction 70 = .ok (.bipush 7, 2) := by decide +kernel
theorem dX4_instruction_72 : decode cX4_instruction 72 = .ok (.aload_n 0, 1) := by decide +kernel
theorem dX4_instruction_73 : decode cX4_instruction 73 = .ok (.getfield 23, 3) := by decide +kernel
theorem dX4_instruction_76 : decode cX4_instruction 76 = .ok (.iload_n 2, 1) := by decide +kernel
theorem dX4_instruction_77 : decode cX4_instruction 77 = .ok (.aload_n 0, 1) := by decide +kernel
theorem dX4_instruction_78 : decode cX4_instruction 78 = .ok (.getfield 27, 3) := by decide +kernel
theorem dX4_instruction_81 : decode cX4_instruction 81 = .ok (.bipush 7, 2) := by decide +kernel
theorem dX4_instruction_83 : decode cX4_instruction 83 = .ok (.iaload, 1) := by decide +kernel
theorem dX4_instruction_84 : decode cX4_instruction 84 = .ok (.aload_n 0, 1) := by decide +kernel
theorem dX4_instruction_85 : decode cX4_instruction 85 = .ok (.iload_n 3, 1) := by decide +kernel
theorem dX4_instruction_86 : decode cX4_instruction 86 = .ok (.invokevirtual 101, 3) := by decide +kernel
theorem dX4_instruction_89 : decode cX4_instruction 89 = .ok (.invokevirtual 104, 3) := by decide +kernel
theorem dX4_instruction_92 : decode cX4_instruction 92 = .ok (.iastore, 1) := by decide +kernel
theorem dX4_instruction_93 : decode cX4_instruction 93 = .ok (.iload_n 3, 1) := by decide +kernel
theorem dX4_instruction_94 : decode cX4_instruction 94 = .ok (.bipush 6, 2) := by decide +kernel
theorem dX4_instruction_96 : decode cX4_instruction 96 = .ok (.if_icmp .ne 8, 3) := by decide +kernel
theorem dX4_instruction_99 : decode cX4_instruction 99 = .ok (.bipush 7, 2) := by decide +kernel
theorem dX4_instruction_101 : decode cX4_instruction 101 = .ok (.goto 4, 3) := by decide +kernel
theorem dX4_instruction_104 : decode cX4_instruction 104 = .ok (.iconst 4, 1) := by decide +kernel
theorem dX4_instruction_105 : decode cX4_instruction 105 = .ok (.ireturn, 1) := by decide +kernel
theorem dX4_instruction_106 : decode cX4_instruction 106 = .ok (.aload_n 0, 1) := by decide +kernel
theorem dX4_instruction_107 : decode cX4_instruction 107 = .ok (.iload_n 2, 1) := by decide +kernel
theorem dX4_instruction_108 : decode cX4_instruction 108 = .ok (.iload_n 3, 1) := by decide +kernel
theorem dX4_instruction_109 : decode cX4_instruction 109 = .ok (.invokevirtual 108, 3) := by decide +kernel
theorem dX4_instruction_112 : decode cX4_instruction 112 = .ok (.ireturn, 1) := by decide +kernel
set_option maxRecDepth 20000 in
theorem ggX4_firstQuarter_X4_setOrAddPair : GoodIn wsX4_firstQuarter wsX4_setOrAddPair := goodIn_r _ [7, 8, 9, 10, 11, 12, 6, 13, 14, 15, 16, 17, 18, 19, 20, 21, 22, 23, 24, 25, 26, 2, 27, 28, 29, 30, 31, 32, 33, 34, 35, 36, 127, 128, 129, 130, 131, 132, 133, 134, 135, 136, 137, 138, 139, 140, 141, 142, 143, 144, 145] (by decide +kernel) (by decide +kernel)
set_option maxRecDepth 20000 in
theorem gX4_firstQuarter_X4_setOrAddPair : GoodIn wsX4_firstQuarter (wsV RX4 111 RX4 yX4_setOrAddPair wsX4_setOrAddPair) := goodIn_app (goodIn_of _ (by decide +kernel)) ggX4_firstQuarter_X4_setOrAddPair
set_option maxRecDepth 20000 in
theorem ggX4_firstQuarter_X4_moveByAddress : GoodIn wsX4_firstQuarter wsX4_moveByAddress := goodIn_r _ [40, 14, 2, 27, 28, 29, 6, 30, 26, 41, 42, 43, 19, 44, 21, 45, 46, 47, 48, 10, 11, 12, 13, 15, 9, 16, 17, 18, 20, 49, 50, 51, 52, 22, 23, 24, 25, 127, 128, 129, 130, 131, 132, 133, 134, 135, 136, 137, 138, 139, 140] (by decide +kernel) (by decide +kernel)
set_option maxRecDepth 20000 in
theorem gX4_firstQuarter_X4_moveByAddress : GoodIn wsX4_firstQuarter (wsV RX4 114 RX4 yX4_moveByAddress wsX4_moveByAddress) := goodIn_app (goodIn_of _ (by decide +kernel)) ggX4_firstQuarter_X4_moveByAddress
set_option maxRecDepth 20000 in
theorem ggX4_firstQuarter_X4_stepPair : GoodIn wsX4_firstQuarter wsX4_stepPair := goodIn_r _ [56, 27, 28, 29, 6, 30, 26, 2, 22, 23, 24, 25, 9, 127, 128, 129, 130, 131, 132, 133, 134, 135, 136, 137, 138, 139] (by decide +kernel) (by decide +kernel)
set_option maxRecDepth 20000 in
theorem gX4_firstQuarter_X4_stepPair : GoodIn wsX4_firstQuarter (wsV RX4 117 RX4 yX4_stepPair wsX4_stepPair) := goodIn_app (goodIn_of _ (by decide +kernel)) ggX4_firstQuarter_X4_stepPair
set_option maxRecDepth 20000 in
theorem ggX4_firstQuarter_X4_value : GoodIn wsX4_firstQuarter wsX4_value := goodIn_r _ [60, 14, 2, 27, 28, 29, 6, 30, 26, 45, 46, 47, 19, 48, 21, 127, 128, 129, 130, 131, 132, 133, 134, 135, 136, 137, 138, 139, 140] (by decide +kernel) (by decide +kernel)
set_option maxRecDepth 20000 in
theorem gX4_firstQuarter_X4_value : GoodIn wsX4_firstQuarter (wsV RX4 101 RX4 yX4_value wsX4_value) := goodIn_app (goodIn_of _ (by decide +kernel)) ggX4_firstQuarter_X4_value
set_option maxRecDepth 20000 in
theorem ggX4_firstQuarter_X0_oneMore : GoodIn wsX4_firstQuarter wsX0_oneMore := goodIn_r _ [65, 66, 67, 68, 69, 34, 70, 71, 72, 73, 74, 75, 76, 77, 78, 79, 80, 81, 82, 83, 84, 85, 146, 141, 142, 143, 144, 145] (by decide +kernel) (by decide +kernel)
set_option maxRecDepth 20000 in
theorem gX4_firstQuarter_X0_oneMore : GoodIn wsX4_firstQuarter (wsV RX4 120 RX0 yX0_oneMore wsX0_oneMore) := goodIn_app (goodIn_of _ (by decide +kernel)) ggX4_firstQuarter_X0_oneMore
set_option maxRecDepth 20000 in
theorem ggX4_firstQuarter_X4_setValue : GoodIn wsX4_firstQuarter wsX4_setValue := goodIn_r _ [89, 14, 2, 27, 28, 29, 6, 30, 26, 41, 42, 43, 19, 44, 21, 127, 128, 129, 130, 131, 132, 133, 134, 135, 136, 137, 138, 139, 140] (by decide +kernel) (by decide +kernel)
set_option maxRecDepth 20000 in
theorem gX4_firstQuarter_X4_setValue : GoodIn wsX4_firstQuarter (wsV RX4 123 RX4 yX4_setValue wsX4_setValue) := goodIn_app (goodIn_of _ (by decide +kernel)) ggX4_firstQuarter_X4_setValue
set_option maxRecDepth 20000 in
theorem ggX4_firstQuarter_X0_oneLess : GoodIn wsX4_firstQuarter wsX0_oneLess := goodIn_r _ [93, 66, 67, 68, 69, 34, 70, 71, 72, 73, 74, 75, 76, 77, 78, 79, 80, 81, 82, 83, 84, 85, 146, 141, 142, 143, 144, 145] (by decide +kernel) (by decide +kernel)
set_option maxRecDepth 20000 in
theorem gX4_firstQuarter_X0_oneLess : GoodIn wsX4_firstQuarter (wsV RX4 127 RX0 yX0_oneLess wsX0_oneLess) := goodIn_app (goodIn_of _ (by decide +kernel)) ggX4_firstQuarter_X0_oneLess
set_option maxRecDepth 20000 in
theorem ggX4_firstQuarter_X4_nextByte : GoodIn wsX4_firstQuarter wsX4_nextByte := goodIn_r _ [97, 14, 15, 9, 45, 46, 47, 19, 48, 21, 127, 128, 129, 130, 131, 132, 133, 134, 135, 136, 137, 138, 139, 140] (by decide +kernel) (by decide +kernel)
set_option maxRecDepth 20000 in
theorem gX4_firstQuarter_X4_nextByte : GoodIn wsX4_firstQuarter (wsV RX4 91 RX4 yX4_nextByte wsX4_nextByte) := goodIn_app (goodIn_of _ (by decide +kernel)) ggX4_firstQuarter_X4_nextByte
set_option maxRecDepth 20000 in
theorem ggX4_firstQuarter_X0_adjust : GoodIn wsX4_firstQuarter wsX0_adjust := goodIn_r _ [101, 66, 102, 103, 104, 64, 105, 106, 32, 33, 34, 35, 36, 107, 108, 109, 110, 111, 112, 113, 114, 115, 116, 117, 118, 119, 120, 121, 122, 71, 123, 124, 125, 126, 67, 68, 69, 70, 72, 73, 74, 75, 76, 77, 78, 79, 80, 81, 82, 83, 84, 85, 146, 141, 142, 143, 144, 145] (by decide +kernel) (by decide +kernel)
set_option maxRecDepth 20000 in
theorem gX4_firstQuarter_X0_adjust : GoodIn wsX4_firstQuarter (wsV RX4 130 RX0 yX0_adjust wsX0_adjust) := goodIn_app (goodIn_of _ (by decide +kernel)) ggX4_firstQuarter_X0_adjust
theorem dX4_firstQuarter_0 : decode cX4_firstQuarter 0 = .ok (.iload_n 2, 1) := by decide +kernel
theorem dX4_firstQuarter_1 : decode cX4_firstQuarter 1 = .ok (.tableswitch 146 0 6 #[43, 45, 51, 57, 63, 93, 123], 43) := by decide +kernel
theorem dX4_firstQuarter_44 : decode cX4_firstQuarter 44 = .ok (.iconst 4, 1) := by decide +kernel
theorem dX4_firstQuarter_45 : decode cX4_firstQuarter 45 = .ok (.ireturn, 1) := by decide +kernel
theorem dX4_firstQuarter_46 : decode cX4_firstQuarter 46 = .ok (.aload_n 0, 1) := by decide +kernel
theorem dX4_firstQuarter_47 : decode cX4_firstQuarter 47 = .ok (.iload_n 1, 1) := by decide +kernel
theorem dX4_firstQuarter_48 : decode cX4_firstQuarter 48 = .ok (.invokevirtual 111, 3) := by decide +kernel
theorem dX4_firstQuarter_51 : decode cX4_firstQuarter 51 = .ok (.ireturn, 1) := by decide +kernel
theorem dX4_firstQuarter_52 : decode cX4_firstQuarter 52 = .ok (.aload_n 0, 1) := by decide +kernel
theorem dX4_firstQuarter_53 : decode cX4_firstQuarter 53 = .ok (.iload_n 1, 1) := by decide +kernel
theorem dX4_firstQuarter_54 : decode cX4_firstQuarter 54 = .ok (.invokevirtual 114, 3) := by decide +kernel
theorem dX4_firstQuarter_57 : decode cX4_firstQuarter 57 = .ok (.ireturn, 1) := by decide +kernel
theorem dX4_firstQuarter_58 : decode cX4_firstQuarter 58 = .ok (.aload_n 0, 1) := by decide +kernel
theorem dX4_firstQuarter_59 : decode cX4_firstQuarter 59 = .ok (.iload_n 1, 1) := by decide +kernel
theorem dX4_firstQuarter_60 : decode cX4_firstQuarter 60 = .ok (.invokevirtual 117, 3) := by decide +kernel
theorem dX4_firstQuarter_63 : decode cX4_firstQuarter 63 = .ok (.ireturn, 1) := by decide +kernel
theorem dX4_firstQuarter_64 : decode cX4_firstQuarter 64 = .ok (.aload_n 0, 1) := by decide +kernel
theorem dX4_firstQuarter_65 : decode cX4_firstQuarter 65 = .ok (.iload_n 1, 1) := by decide +kernel
theorem dX4_firstQuarter_66 : decode cX4_firstQuarter 66 = .ok (.aload_n 0, 1) := by decide +kernel
theorem dX4_firstQuarter_67 : decode cX4_firstQuarter 67 = .ok (.getfield 23, 3) := by decide +kernel
theorem dX4_firstQuarter_70 : decode cX4_firstQuarter 70 = .ok (.aload_n 0, 1) := by decide +kernel
theorem dX4_firstQuarter_71 : decode cX4_firstQuarter 71 = .ok (.iload_n 1, 1) := by decide +kernel
theorem dX4_firstQuarter_72 : decode cX4_firstQuarter 72 = .ok (.invokevirtual 101, 3) := by decide +kernel
theorem dX4_firstQuarter_75 : decode cX4_firstQuarter 75 = .ok (.invokevirtual 120, 3) := by decide +kernel
theorem dX4_firstQuarter_78 : decode cX4_firstQuarter 78 = .ok (.invokevirtual 123, 3) := by decide +kernel
theorem dX4_firstQuarter_81 : decode cX4_firstQuarter 81 = .ok (.iload_n 1, 1) := by decide +kernel
theorem dX4_firstQuarter_82 : decode cX4_firstQuarter 82 = .ok (.bipush 6, 2) := by decide +kernel
theorem dX4_firstQuarter_84 : decode cX4_firstQuarter 84 = .ok (.if_icmp .ne 8, 3) := by decide +kernel
theorem dX4_firstQuarter_87 : decode cX4_firstQuarter 87 = .ok (.bipush 10, 2) := by decide +kernel
theorem dX4_firstQuarter_89 : decode cX4_firstQuarter 89 = .ok (.goto 4, 3) := by decide +kernel
theorem dX4_firstQuarter_92 : decode cX4_firstQuarter 92 = .ok (.iconst 5, 1) := by decide +kernel
theorem dX4_firstQuarter_93 : decode cX4_firstQuarter 93 = .ok (.ireturn, 1) := by decide +kernel
theorem dX4_firstQuarter_94 : decode cX4_firstQuarter 94 = .ok (.aload_n 0, 1) := by decide +kernel
theorem dX4_firstQuarter_95 : decode cX4_firstQuarter 95 = .ok (.iload_n 1, 1) := by decide +kernel
theorem dX4_firstQuarter_96 : decode cX4_firstQuarter 96 = .ok (.aload_n 0, 1) := by decide +kernel
theorem dX4_firstQuarter_97 : decode cX4_firstQuarter 97 = .ok (.getfield 23, 3) := by decide +kernel
theorem dX4_firstQuarter_100 : decode cX4_firstQuarter 100 = .ok (.aload_n 0, 1) := by decide +kernel
theorem dX4_firstQuarter_101 : decode cX4_firstQuarter 101 = .ok (.iload_n 1, 1) := by decide +kernel
theorem dX4_firstQuarter_102 : decode cX4_firstQuarter 102 = .ok (.invokevirtual 101, 3) := by decide +kernel
theorem dX4_firstQuarter_105 : decode cX4_firstQuarter 105 = .ok (.invokevirtual 127, 3) := by decide +kernel
theorem dX4_firstQuarter_108 : decode cX4_firstQuarter 108 = .ok (.invokevirtual 123, 3) := by decide +kernel
theorem dX4_firstQuarter_111 : decode cX4_firstQuarter 111 = .ok (.iload_n 1, 1) := by decide +kernel
theorem dX4_firstQuarter_112 : decode cX4_firstQuarter 112 = .ok (.bipush 6, 2) := by decide +kernel
theorem dX4_firstQuarter_114 : decode cX4_firstQuarter 114 = .ok (.if_icmp .ne 8, 3) := by decide +kernel
theorem dX4_firstQuarter_117 : decode cX4_firstQuarter 117 = .ok (.bipush 10, 2) := by decide +kernel
theorem dX4_firstQuarter_119 : decode cX4_firstQuarter 119 = .ok (.goto 4, 3) := by decide +kernel
theorem dX4_firstQuarter_122 : decode cX4_firstQuarter 122 = .ok (.iconst 5, 1) := by decide +kernel
theorem dX4_firstQuarter_123 : decode cX4_firstQuarter 123 = .ok (.ireturn, 1) := by decide +kernel
theorem dX4_firstQuarter_124 : decode cX4_firstQuarter 124 = .ok (.aload_n 0, 1) := by decide +kernel
theorem dX4_firstQuarter_125 : decode cX4_firstQuarter 125 = .ok (.iload_n 1, 1) := by decide +kernel
theorem dX4_firstQuarter_126 : decode cX4_firstQuarter 126 = .ok (.aload_n 0, 1) := by decide +kernel
theorem dX4_firstQuarter_127 : decode cX4_firstQuarter 127 = .ok (.invokevirtual 91, 3) := by decide +kernel
theorem dX4_firstQuarter_130 : decode cX4_firstQuarter 130 = .ok (.invokevirtual 123, 3) := by decide +kernel
theorem dX4_firstQuarter_133 : decode cX4_firstQuarter 133 = .ok (.iload_n 1, 1) := by decide +kernel
theorem dX4_firstQuarter_134 : decode cX4_firstQuarter 134 = .ok (.bipush 6, 2) := by decide +kernel
theorem dX4_firstQuarter_136 : decode cX4_firstQuarter 136 = .ok (.if_icmp .ne 8, 3) := by decide +kernel
theorem dX4_firstQuarter_139 : decode cX4_firstQuarter 139 = .ok (.bipush 10, 2) := by decide +kernel
theorem dX4_firstQuarter_141 : decode cX4_firstQuarter 141 = .ok (.goto 5, 3) := by decide +kernel
theorem dX4_firstQuarter_144 : decode cX4_firstQuarter 144 = .ok (.bipush 7, 2) := by decide +kernel
theorem dX4_firstQuarter_146 : decode cX4_firstQuarter 146 = .ok (.ireturn, 1) := by decide +kernel
theorem dX4_firstQuarter_147 : decode cX4_firstQuarter 147 = .ok (.aload_n 0, 1) := by decide +kernel
theorem dX4_firstQuarter_148 : decode cX4_firstQuarter 148 = .ok (.getfield 27, 3) := by decide +kernel
theorem dX4_firstQuarter_151 : decode cX4_firstQuarter 151 = .ok (.bipush 7, 2) := by decide +kernel
theorem dX4_firstQuarter_153 : decode cX4_firstQuarter 153 = .ok (.aload_n 0, 1) := by decide +kernel
theorem dX4_firstQuarter_154 : decode cX4_firstQuarter 154 = .ok (.getfield 23, 3) := by decide +kernel
theorem dX4_firstQuarter_157 : decode cX4_firstQuarter 157 = .ok (.iload_n 1, 1) := by decide +kernel
theorem dX4_firstQuarter_158 : decode cX4_firstQuarter 158 = .ok (.aload_n 0, 1) := by decide +kernel
theorem dX4_firstQuarter_159 : decode cX4_firstQuarter 159 = .ok (.getfield 27, 3) := by decide +kernel
theorem dX4_firstQuarter_162 : decode cX4_firstQuarter 162 = .ok (.bipush 7, 2) := by decide +kernel
theorem dX4_firstQuarter_164 : decode cX4_firstQuarter 164 = .ok (.iaload, 1) := by decide +kernel
theorem dX4_firstQuarter_165 : decode cX4_firstQuarter 165 = .ok (.invokevirtual 130, 3) := by decide +kernel
theorem dX4_firstQuarter_168 : decode cX4_firstQuarter 168 = .ok (.iastore, 1) := by decide +kernel
theorem dX4_firstQuarter_169 : decode cX4_firstQuarter 169 = .ok (.iconst 4, 1) := by decide +kernel
theorem dX4_firstQuarter_170 : decode cX4_firstQuarter 170 = .ok (.ireturn, 1) := by decide +kernel
set_option maxRecDepth 20000 in
theorem ggX4_setOrAddPair_X4_nextWord : GoodIn wsX4_setOrAddPair wsX4_nextWord := goodIn_r _ [7, 8, 9, 2, 10, 11, 12, 13, 14, 15, 32, 33, 34, 35, 36, 37, 38, 39, 40, 41, 42, 43, 44, 45] (by decide +kernel) (by decide +kernel)
set_option maxRecDepth 20000 in
theorem gX4_setOrAddPair_X4_nextWord : GoodIn wsX4_setOrAddPair (wsV RX4 133 RX4 yX4_nextWord wsX4_nextWord) := goodIn_app (goodIn_of _ (by decide +kernel)) ggX4_setOrAddPair_X4_nextWord
set_option maxRecDepth 20000 in
theorem ggX4_setOrAddPair_X4_setPair : GoodIn wsX4_setOrAddPair wsX4_setPair := goodIn_r _ [19, 2, 20, 21, 32, 33, 34, 35, 36, 37, 38, 39, 40, 41, 42, 43, 44] (by decide +kernel) (by decide +kernel)
set_option maxRecDepth 20000 in
theorem gX4_setOrAddPair_X4_setPair : GoodIn wsX4_setOrAddPair (wsV RX4 136 RX4 yX4_setPair wsX4_setPair) := goodIn_app (goodIn_of _ (by decide +kernel)) ggX4_setOrAddPair_X4_setPair
set_option maxRecDepth 20000 in
theorem ggX4_setOrAddPair_X4_pair : GoodIn wsX4_setOrAddPair wsX4_pair := goodIn_r _ [25, 20, 21, 32, 33, 34, 35, 36, 37, 38, 39, 40, 41, 42, 43, 44] (by decide +kernel) (by decide +kernel)
set_option maxRecDepth 20000 in
theorem gX4_setOrAddPair_X4_pair : GoodIn wsX4_setOrAddPair (wsV RX4 139 RX4 yX4_pair wsX4_pair) := goodIn_app (goodIn_of _ (by decide +kernel)) ggX4_setOrAddPair_X4_pair
set_option maxRecDepth 20000 in
theorem ggX4_setOrAddPair_X3_setCarry : GoodIn wsX4_setOrAddPair wsX3_setCarry := goodIn_r _ [30, 31, 46, 47, 48, 49, 50] (by decide +kernel) (by decide +kernel)
set_option maxRecDepth 20000 in
theorem gX4_setOrAddPair_X3_setCarry : GoodIn wsX4_setOrAddPair (wsV RX4 142 RX3 yX3_setCarry wsX3_setCarry) := goodIn_app (goodIn_of _ (by decide +kernel)) ggX4_setOrAddPair_X3_setCarry
theorem dX4_setOrAddPair_0 : decode cX4_setOrAddPair 0 = .ok (.iload_n 1, 1) := by decide +kernel
theorem dX4_setOrAddPair_1 : decode cX4_setOrAddPair 1 = .ok (.iconst 1, 1) := by decide +kernel
theorem dX4_setOrAddPair_2 : decode cX4_setOrAddPair 2 = .ok (.ishr, 1) := by decide +kernel
theorem dX4_setOrAddPair_3 : decode cX4_setOrAddPair 3 = .ok (.istore_n 2, 1) := by decide +kernel
theorem dX4_setOrAddPair_4 : decode cX4_setOrAddPair 4 = .ok (.iload_n 1, 1) := by decide +kernel
theorem dX4_setOrAddPair_5 : decode cX4_setOrAddPair 5 = .ok (.iconst 1, 1) := by decide +kernel
theorem dX4_setOrAddPair_6 : decode cX4_setOrAddPair 6 = .ok (.iand, 1) := by decide +kernel
theorem dX4_setOrAddPair_7 : decode cX4_setOrAddPair 7 = .ok (.ifCond .ne 15, 3) := by decide +kernel
theorem dX4_setOrAddPair_10 : decode cX4_setOrAddPair 10 = .ok (.aload_n 0, 1) := by decide +kernel
theorem dX4_setOrAddPair_11 : decode cX4_setOrAddPair 11 = .ok (.iload_n 2, 1) := by decide +kernel
theorem dX4_setOrAddPair_12 : decode cX4_setOrAddPair 12 = .ok (.aload_n 0, 1) := by decide +kernel
theorem dX4_setOrAddPair_13 : decode cX4_setOrAddPair 13 = .ok (.invokevirtual 133, 3) := by decide +kernel
theorem dX4_setOrAddPair_16 : decode cX4_setOrAddPair 16 = .ok (.invokevirtual 136, 3) := by decide +kernel
theorem dX4_setOrAddPair_19 : decode cX4_setOrAddPair 19 = .ok (.goto 39, 3) := by decide +kernel
theorem dX4_setOrAddPair_22 : decode cX4_setOrAddPair 22 = .ok (.aload_n 0, 1) := by decide +kernel
theorem dX4_setOrAddPair_23 : decode cX4_setOrAddPair 23 = .ok (.iconst 2, 1) := by decide +kernel
theorem dX4_setOrAddPair_24 : decode cX4_setOrAddPair 24 = .ok (.invokevirtual 139, 3) := by decide +kernel
theorem dX4_setOrAddPair_27 : decode cX4_setOrAddPair 27 = .ok (.aload_n 0, 1) := by decide +kernel
theorem dX4_setOrAddPair_28 : decode cX4_setOrAddPair 28 = .ok (.iload_n 2, 1) := by decide +kernel
theorem dX4_setOrAddPair_29 : decode cX4_setOrAddPair 29 = .ok (.invokevirtual 139, 3) := by decide +kernel
theorem dX4_setOrAddPair_32 : decode cX4_setOrAddPair 32 = .ok (.iadd, 1) := by decide +kernel
theorem dX4_setOrAddPair_33 : decode cX4_setOrAddPair 33 = .ok (.istore_n 3, 1) := by decide +kernel
theorem dX4_setOrAddPair_34 : decode cX4_setOrAddPair 34 = .ok (.aload_n 0, 1) := by decide +kernel
theorem dX4_setOrAddPair_35 : decode cX4_setOrAddPair 35 = .ok (.getfield 12, 3) := by decide +kernel
theorem dX4_setOrAddPair_38 : decode cX4_setOrAddPair 38 = .ok (.iload_n 3, 1) := by decide +kernel
theorem dX4_setOrAddPair_39 : decode cX4_setOrAddPair 39 = .ok (.ldc 61, 2) := by decide +kernel
theorem dX4_setOrAddPair_41 : decode cX4_setOrAddPair 41 = .ok (.if_icmp .le 7, 3) := by decide +kernel
theorem dX4_setOrAddPair_44 : decode cX4_setOrAddPair 44 = .ok (.iconst 1, 1) := by decide +kernel
theorem dX4_setOrAddPair_45 : decode cX4_setOrAddPair 45 = .ok (.goto 4, 3) := by decide +kernel
theorem dX4_setOrAddPair_48 : decode cX4_setOrAddPair 48 = .ok (.iconst 0, 1) := by decide +kernel
theorem dX4_setOrAddPair_49 : decode cX4_setOrAddPair 49 = .ok (.invokevirtual 142, 3) := by decide +kernel
theorem dX4_setOrAddPair_52 : decode cX4_setOrAddPair 52 = .ok (.aload_n 0, 1) := by decide +kernel
theorem dX4_setOrAddPair_53 : decode cX4_setOrAddPair 53 = .ok (.iconst 2, 1) := by decide +kernel
theorem dX4_setOrAddPair_54 : decode cX4_setOrAddPair 54 = .ok (.iload_n 3, 1) := by decide +kernel
theorem dX4_setOrAddPair_55 : decode cX4_setOrAddPair 55 = .ok (.invokevirtual 136, 3) := by decide +kernel
theorem dX4_setOrAddPair_58 : decode cX4_setOrAddPair 58 = .ok (.bipush 10, 2) := by decide +kernel
theorem dX4_setOrAddPair_60 : decode cX4_setOrAddPair 60 = .ok (.ireturn, 1) := by decide +kernel
set_option maxRecDepth 20000 in
theorem ggX4_stepPair_X4_pair : GoodIn wsX4_stepPair wsX4_pair := goodIn_r _ [5, 6, 7, 13, 14, 15, 16, 17, 18, 19, 20, 21, 22, 23, 24, 25] (by decide +kernel) (by decide +kernel)
set_option maxRecDepth 20000 in
theorem gX4_stepPair_X4_pair : GoodIn wsX4_stepPair (wsV RX4 139 RX4 yX4_pair wsX4_pair) := goodIn_app (goodIn_of _ (by decide +kernel)) ggX4_stepPair_X4_pair
set_option maxRecDepth 20000 in
theorem ggX4_stepPair_X4_setPair : GoodIn wsX4_stepPair wsX4_setPair := goodIn_r _ [11, 12, 6, 7, 13, 14, 15, 16, 17, 18, 19, 20, 21, 22, 23, 24, 25] (by decide +kernel) (by decide +kernel)
set_option maxRecDepth 20000 in
theorem gX4_stepPair_X4_setPair : GoodIn wsX4_stepPair (wsV RX4 136 RX4 yX4_setPair wsX4_setPair) := goodIn_app (goodIn_of _ (by decide +kernel)) ggX4_stepPair_X4_setPair
theorem dX4_stepPair_0 : decode cX4_stepPair 0 = .ok (.iload_n 1, 1) := by decide +kernel
theorem dX4_stepPair_1 : decode cX4_stepPair 1 = .ok (.iconst 1, 1) := by decide +kernel
theorem dX4_stepPair_2 : decode cX4_stepPair 2 = .ok (.ishr, 1) := by decide +kernel
theorem dX4_stepPair_3 : decode cX4_stepPair 3 = .ok (.istore_n 2, 1) := by decide +kernel
theorem dX4_stepPair_4 : decode cX4_stepPair 4 = .ok (.aload_n 0, 1) := by decide +kernel
theorem dX4_stepPair_5 : decode cX4_stepPair 5 = .ok (.iload_n 2, 1) := by decide +kernel
theorem dX4_stepPair_6 : decode cX4_stepPair 6 = .ok (.iload_n 1, 1) := by decide +kernel
theorem dX4_stepPair_7 : decode cX4_stepPair 7 = .ok (.iconst 1, 1) := by decide +kernel
theorem dX4_stepPair_8 : decode cX4_stepPair 8 = .ok (.iand, 1) := by decide +kernel
theorem dX4_stepPair_9 : decode cX4_stepPair 9 = .ok (.ifCond .ne 13, 3) := by decide +kernel
theorem dX4_stepPair_12 : decode cX4_stepPair 12 = .ok (.aload_n 0, 1) := by decide +kernel
theorem dX4_stepPair_13 : decode cX4_stepPair 13 = .ok (.iload_n 2, 1) := by decide +kernel
theorem dX4_stepPair_14 : decode cX4_stepPair 14 = .ok (.invokevirtual 139, 3) := by decide +kernel
theorem dX4_stepPair_17 : decode cX4_stepPair 17 = .ok (.iconst 1, 1) := by decide +kernel
theorem dX4_stepPair_18 : decode cX4_stepPair 18 = .ok (.iadd, 1) := by decide +kernel
theorem dX4_stepPair_19 : decode cX4_stepPair 19 = .ok (.goto 10, 3) := by decide +kernel
theorem dX4_stepPair_22 : decode cX4_stepPair 22 = .ok (.aload_n 0, 1) := by decide +kernel
theorem dX4_stepPair_23 : decode cX4_stepPair 23 = .ok (.iload_n 2, 1) := by decide +kernel
theorem dX4_stepPair_24 : decode cX4_stepPair 24 = .ok (.invokevirtual 139, 3) := by decide +kernel
theorem dX4_stepPair_27 : decode cX4_stepPair 27 = .ok (.iconst 1, 1) := by decide +kernel
theorem dX4_stepPair_28 : decode cX4_stepPair 28 = .ok (.isub, 1) := by decide +kernel
theorem dX4_stepPair_29 : decode cX4_stepPair 29 = .ok (.invokevirtual 136, 3) := by decide +kernel
theorem dX4_stepPair_32 : decode cX4_stepPair 32 = .ok (.iconst 5, 1) := by decide +kernel
theorem dX4_stepPair_33 : decode cX4_stepPair 33 = .ok (.ireturn, 1) := by decide +kernel
set_option maxRecDepth 20000 in
theorem ggX4_moveByAddress_X4_pair : GoodIn wsX4_moveByAddress wsX4_pair := goodIn_r _ [7, 8, 2, 37, 38, 39, 40, 41, 42, 43, 44, 45, 46, 47, 48, 49] (by decide +kernel) (by decide +kernel)
set_option maxRecDepth 20000 in
theorem gX4_moveByAddress_X4_pair : GoodIn wsX4_moveByAddress (wsV RX4 139 RX4 yX4_pair wsX4_pair) := goodIn_app (goodIn_of _ (by decide +kernel)) ggX4_moveByAddress_X4_pair
set_option maxRecDepth 20000 in
theorem ggX4_moveByAddress_X5_setByte : GoodIn wsX4_moveByAddress wsX5_setByte := goodIn_r _ [13, 14, 50] (by decide +kernel) (by decide +kernel)
set_option maxRecDepth 20000 in
theorem gX4_moveByAddress_X5_setByte : GoodIn wsX4_moveByAddress (wsV RX4 146 RX5 yX5_setByte wsX5_setByte) := goodIn_app (goodIn_of _ (by decide +kernel)) ggX4_moveByAddress_X5_setByte
set_option maxRecDepth 20000 in
theorem ggX4_moveByAddress_X5_byteAt : GoodIn wsX4_moveByAddress wsX5_byteAt := goodIn_r _ [18, 14, 50] (by decide +kernel) (by decide +kernel)
set_option maxRecDepth 20000 in
theorem gX4_moveByAddress_X5_byteAt : GoodIn wsX4_moveByAddress (wsV RX4 151 RX5 yX5_byteAt wsX5_byteAt) := goodIn_app (goodIn_of _ (by decide +kernel)) ggX4_moveByAddress_X5_byteAt
set_option maxRecDepth 20000 in
theorem ggX4_moveByAddress_X4_nextWord : GoodIn wsX4_moveByAddress wsX4_nextWord := goodIn_r _ [22, 1, 23, 24, 25, 26, 27, 12, 28, 14, 37, 38, 39, 40, 41, 42, 43, 44, 45, 46, 47, 48, 49, 50] (by decide +kernel) (by decide +kernel)
set_option maxRecDepth 20000 in
theorem gX4_moveByAddress_X4_nextWord : GoodIn wsX4_moveByAddress (wsV RX4 133 RX4 yX4_nextWord wsX4_nextWord) := goodIn_app (goodIn_of _ (by decide +kernel)) ggX4_moveByAddress_X4_nextWord
set_option maxRecDepth 20000 in
theorem ggX4_moveByAddress_X5_setWord : GoodIn wsX4_moveByAddress wsX5_setWord := goodIn_r _ [32, 14, 50] (by decide +kernel) (by decide +kernel)
set_option maxRecDepth 20000 in
theorem gX4_moveByAddress_X5_setWord : GoodIn wsX4_moveByAddress (wsV RX4 154 RX5 yX5_setWord wsX5_setWord) := goodIn_app (goodIn_of _ (by decide +kernel)) ggX4_moveByAddress_X5_setWord
set_option maxRecDepth 20000 in
theorem ggX4_moveByAddress_X5_wordAt : GoodIn wsX4_moveByAddress wsX5_wordAt := goodIn_r _ [28, 14, 50] (by decide +kernel) (by decide +kernel)
set_option maxRecDepth 20000 in
theorem gX4_moveByAddress_X5_wordAt : GoodIn wsX4_moveByAddress (wsV RX4 157 RX5 yX5_wordAt wsX5_wordAt) := goodIn_app (goodIn_of _ (by decide +kernel)) ggX4_moveByAddress_X5_wordAt
set_option maxRecDepth 20000 in
theorem ggX4_moveByAddress_X4_setPair : GoodIn wsX4_moveByAddress wsX4_setPair := goodIn_r _ [36, 24, 8, 2, 37, 38, 39, 40, 41, 42, 43, 44, 45, 46, 47, 48, 49] (by decide +kernel) (by decide +kernel)
set_option maxRecDepth 20000 in
theorem gX4_moveByAddress_X4_setPair : GoodIn wsX4_moveByAddress (wsV RX4 136 RX4 yX4_setPair wsX4_setPair) := goodIn_app (goodIn_of _ (by decide +kernel)) ggX4_moveByAddress_X4_setPair
theorem dX4_moveByAddress_0 : decode cX4_moveByAddress 0 = .ok (.iload_n 1, 1) := by decide +kernel
theorem dX4_moveByAddress_1 : decode cX4_moveByAddress 1 = .ok (.tableswitch 150 0 6 #[43, 67, 43, 67, 91, 110, 129], 43) := by decide +kernel
theorem dX4_moveByAddress_44 : decode cX4_moveByAddress 44 = .ok (.aload_n 0, 1) := by decide +kernel
theorem dX4_moveByAddress_45 : decode cX4_moveByAddress 45 = .ok (.getfield 35, 3) := by decide +kernel
theorem dX4_moveByAddress_48 : decode cX4_moveByAddress 48 = .ok (.aload_n 0, 1) := by decide +kernel
theorem dX4_moveByAddress_49 : decode cX4_moveByAddress 49 = .ok (.iload_n 1, 1) := by decide +kernel
theorem dX4_moveByAddress_50 : decode cX4_moveByAddress 50 = .ok (.iconst 1, 1) := by decide +kernel
theorem dX4_moveByAddress_51 : decode cX4_moveByAddress 51 = .ok (.ishr, 1) := by decide +kernel
theorem dX4_moveByAddress_52 : decode cX4_moveByAddress 52 = .ok (.invokevirtual 139, 3) := by decide +kernel
theorem dX4_moveByAddress_55 : decode cX4_moveByAddress 55 = .ok (.aload_n 0, 1) := by decide +kernel
theorem dX4_moveByAddress_56 : decode cX4_moveByAddress 56 = .ok (.getfield 27, 3) := by decide +kernel
theorem dX4_moveByAddress_59 : decode cX4_moveByAddress 59 = .ok (.bipush 7, 2) := by decide +kernel
theorem dX4_moveByAddress_61 : decode cX4_moveByAddress 61 = .ok (.iaload, 1) := by decide +kernel
theorem dX4_moveByAddress_62 : decode cX4_moveByAddress 62 = .ok (.invokevirtual 146, 3) := by decide +kernel
theorem dX4_moveByAddress_65 : decode cX4_moveByAddress 65 = .ok (.bipush 7, 2) := by decide +kernel
theorem dX4_moveByAddress_67 : decode cX4_moveByAddress 67 = .ok (.ireturn, 1) := by decide +kernel
theorem dX4_moveByAddress_68 : decode cX4_moveByAddress 68 = .ok (.aload_n 0, 1) := by decide +kernel
theorem dX4_moveByAddress_69 : decode cX4_moveByAddress 69 = .ok (.getfield 27, 3) := by decide +kernel
theorem dX4_moveByAddress_72 : decode cX4_moveByAddress 72 = .ok (.bipush 7, 2) := by decide +kernel
theorem dX4_moveByAddress_74 : decode cX4_moveByAddress 74 = .ok (.aload_n 0, 1) := by decide +kernel
theorem dX4_moveByAddress_75 : decode cX4_moveByAddress 75 = .ok (.getfield 35, 3) := by decide +kernel
theorem dX4_moveByAddress_78 : decode cX4_moveByAddress 78 = .ok (.aload_n 0, 1) := by decide +kernel
theorem dX4_moveByAddress_79 : decode cX4_moveByAddress 79 = .ok (.iload_n 1, 1) := by decide +kernel
theorem dX4_moveByAddress_80 : decode cX4_moveByAddress 80 = .ok (.iconst 1, 1) := by decide +kernel
theorem dX4_moveByAddress_81 : decode cX4_moveByAddress 81 = .ok (.ishr, 1) := by decide +kernel
theorem dX4_moveByAddress_82 : decode cX4_moveByAddress 82 = .ok (.invokevirtual 139, 3) := by decide +kernel
theorem dX4_moveByAddress_85 : decode cX4_moveByAddress 85 = .ok (.invokevirtual 151, 3) := by decide +kernel
theorem dX4_moveByAddress_88 : decode cX4_moveByAddress 88 = .ok (.iastore, 1) := by decide +kernel
theorem dX4_moveByAddress_89 : decode cX4_moveByAddress 89 = .ok (.bipush 7, 2) := by decide +kernel
theorem dX4_moveByAddress_91 : decode cX4_moveByAddress 91 = .ok (.ireturn, 1) := by decide +kernel
theorem dX4_moveByAddress_92 : decode cX4_moveByAddress 92 = .ok (.aload_n 0, 1) := by decide +kernel
theorem dX4_moveByAddress_93 : decode cX4_moveByAddress 93 = .ok (.getfield 35, 3) := by decide +kernel
theorem dX4_moveByAddress_96 : decode cX4_moveByAddress 96 = .ok (.aload_n 0, 1) := by decide +kernel
theorem dX4_moveByAddress_97 : decode cX4_moveByAddress 97 = .ok (.invokevirtual 133, 3) := by decide +kernel
theorem dX4_moveByAddress_100 : decode cX4_moveByAddress 100 = .ok (.aload_n 0, 1) := by decide +kernel
theorem dX4_moveByAddress_101 : decode cX4_moveByAddress 101 = .ok (.iconst 2, 1) := by decide +kernel
theorem dX4_moveByAddress_102 : decode cX4_moveByAddress 102 = .ok (.invokevirtual 139, 3) := by decide +kernel
theorem dX4_moveByAddress_105 : decode cX4_moveByAddress 105 = .ok (.invokevirtual 154, 3) := by decide +kernel
theorem dX4_moveByAddress_108 : decode cX4_moveByAddress 108 = .ok (.bipush 16, 2) := by decide +kernel
theorem dX4_moveByAddress_110 : decode cX4_moveByAddress 110 = .ok (.ireturn, 1) := by decide +kernel
theorem dX4_moveByAddress_111 : decode cX4_moveByAddress 111 = .ok (.aload_n 0, 1) := by decide +kernel
theorem dX4_moveByAddress_112 : decode cX4_moveByAddress 112 = .ok (.iconst 2, 1) := by decide +kernel
theorem dX4_moveByAddress_113 : decode cX4_moveByAddress 113 = .ok (.aload_n 0, 1) := by decide +kernel
theorem dX4_moveByAddress_114 : decode cX4_moveByAddress 114 = .ok (.getfield 35, 3) := by decide +kernel
theorem dX4_moveByAddress_117 : decode cX4_moveByAddress 117 = .ok (.aload_n 0, 1) := by decide +kernel
theorem dX4_moveByAddress_118 : decode cX4_moveByAddress 118 = .ok (.invokevirtual 133, 3) := by decide +kernel
theorem dX4_moveByAddress_121 : decode cX4_moveByAddress 121 = .ok (.invokevirtual 157, 3) := by decide +kernel
theorem dX4_moveByAddress_124 : decode cX4_moveByAddress 124 = .ok (.invokevirtual 136, 3) := by decide +kernel
theorem dX4_moveByAddress_127 : decode cX4_moveByAddress 127 = .ok (.bipush 16, 2) := by decide +kernel
theorem dX4_moveByAddress_129 : decode cX4_moveByAddress 129 = .ok (.ireturn, 1) := by decide +kernel
theorem dX4_moveByAddress_130 : decode cX4_moveByAddress 130 = .ok (.aload_n 0, 1) := by decide +kernel
theorem dX4_moveByAddress_131 : decode cX4_moveByAddress 131 = .ok (.getfield 35, 3) := by decide +kernel
theorem dX4_moveByAddress_134 : decode cX4_moveByAddress 134 = .ok (.aload_n 0, 1) := by decide +kernel
theorem dX4_moveByAddress_135 : decode cX4_moveByAddress 135 = .ok (.invokevirtual 133, 3) := by decide +kernel
theorem dX4_moveByAddress_138 : decode cX4_moveByAddress 138 = .ok (.aload_n 0, 1) := by decide +kernel
theorem dX4_moveByAddress_139 : decode cX4_moveByAddress 139 = .ok (.getfield 27, 3) := by decide +kernel
theorem dX4_moveByAddress_142 : decode cX4_moveByAddress 142 = .ok (.bipush 7, 2) := by decide +kernel
theorem dX4_moveByAddress_144 : decode cX4_moveByAddress 144 = .ok (.iaload, 1) := by decide +kernel
theorem dX4_moveByAddress_145 : decode cX4_moveByAddress 145 = .ok (.invokevirtual 146, 3) := by decide +kernel
theorem dX4_moveByAddress_148 : decode cX4_moveByAddress 148 = .ok (.bipush 13, 2) := by decide +kernel
theorem dX4_moveByAddress_150 : decode cX4_moveByAddress 150 = .ok (.ireturn, 1) := by decide +kernel
theorem dX4_moveByAddress_151 : decode cX4_moveByAddress 151 = .ok (.aload_n 0, 1) := by decide +kernel
theorem dX4_moveByAddress_152 : decode cX4_moveByAddress 152 = .ok (.getfield 27, 3) := by decide +kernel
theorem dX4_moveByAddress_155 : decode cX4_moveByAddress 155 = .ok (.bipush 7, 2) := by decide +kernel
theorem dX4_moveByAddress_157 : decode cX4_moveByAddress 157 = .ok (.aload_n 0, 1) := by decide +kernel
theorem dX4_moveByAddress_158 : decode cX4_moveByAddress 158 = .ok (.getfield 35, 3) := by decide +kernel
theorem dX4_moveByAddress_161 : decode cX4_moveByAddress 161 = .ok (.aload_n 0, 1) := by decide +kernel
theorem dX4_moveByAddress_162 : decode cX4_moveByAddress 162 = .ok (.invokevirtual 133, 3) := by decide +kernel
theorem dX4_moveByAddress_165 : decode cX4_moveByAddress 165 = .ok (.invokevirtual 151, 3) := by decide +kernel
theorem dX4_moveByAddress_168 : decode cX4_moveByAddress 168 = .ok (.iastore, 1) := by decide +kernel
theorem dX4_moveByAddress_169 : decode cX4_moveByAddress 169 = .ok (.bipush 13, 2) := by decide +kernel
theorem dX4_moveByAddress_171 : decode cX4_moveByAddress 171 = .ok (.ireturn, 1) := by decide +kernel
set_option maxRecDepth 20000 in
theorem ggX4_transfer_X4_value : GoodIn wsX4_transfer wsX4_value := goodIn_r _ [6, 7, 8, 9, 10, 11, 5, 12, 13, 14, 15, 16, 17, 18, 19, 28, 29, 30, 31, 32, 33, 34, 35, 36, 37, 38, 39, 40, 41] (by decide +kernel) (by decide +kernel)
set_option maxRecDepth 20000 in
theorem gX4_transfer_X4_value : GoodIn wsX4_transfer (wsV RX4 101 RX4 yX4_value wsX4_value) := goodIn_app (goodIn_of _ (by decide +kernel)) ggX4_transfer_X4_value
set_option maxRecDepth 20000 in
theorem ggX4_transfer_X4_setValue : GoodIn wsX4_transfer wsX4_setValue := goodIn_r _ [23, 7, 8, 9, 10, 11, 5, 12, 13, 24, 25, 26, 17, 27, 19, 28, 29, 30, 31, 32, 33, 34, 35, 36, 37, 38, 39, 40, 41] (by decide +kernel) (by decide +kernel)
set_option maxRecDepth 20000 in
theorem gX4_transfer_X4_setValue : GoodIn wsX4_transfer (wsV RX4 123 RX4 yX4_setValue wsX4_setValue) := goodIn_app (goodIn_of _ (by decide +kernel)) ggX4_transfer_X4_setValue
theorem dX4_transfer_0 : decode cX4_transfer 0 = .ok (.iload_n 1, 1) := by decide +kernel
theorem dX4_transfer_1 : decode cX4_transfer 1 = .ok (.bipush 6, 2) := by decide +kernel
theorem dX4_transfer_3 : decode cX4_transfer 3 = .ok (.if_icmp .ne 17, 3) := by decide +kernel
theorem dX4_transfer_6 : decode cX4_transfer 6 = .ok (.iload_n 2, 1) := by decide +kernel
theorem dX4_transfer_7 : decode cX4_transfer 7 = .ok (.bipush 6, 2) := by decide +kernel
theorem dX4_transfer_9 : decode cX4_transfer 9 = .ok (.if_icmp .ne 11, 3) := by decide +kernel
theorem dX4_transfer_12 : decode cX4_transfer 12 = .ok (.aload_n 0, 1) := by decide +kernel
theorem dX4_transfer_13 : decode cX4_transfer 13 = .ok (.iconst 1, 1) := by decide +kernel
theorem dX4_transfer_14 : decode cX4_transfer 14 = .ok (.putfield 62, 3) := by decide +kernel
theorem dX4_transfer_17 : decode cX4_transfer 17 = .ok (.bipush 7, 2) := by decide +kernel
theorem dX4_transfer_19 : decode cX4_transfer 19 = .ok (.ireturn, 1) := by decide +kernel
theorem dX4_transfer_20 : decode cX4_transfer 20 = .ok (.aload_n 0, 1) := by decide +kernel
theorem dX4_transfer_21 : decode cX4_transfer 21 = .ok (.iload_n 1, 1) := by decide +kernel
theorem dX4_transfer_22 : decode cX4_transfer 22 = .ok (.aload_n 0, 1) := by decide +kernel
