theorem dX7_instruction_74 : decode cX7_instruction 74 = .ok (.if_icmp .ne 8, 3) := by decide +kernel
theorem dX7_instruction_77 : decode cX7_instruction 77 = .ok (.bipush 7, 2) := by decide +kernel
theorem dX7_instruction_79 : decode cX7_instruction 79 = .ok (.goto 4, 3) := by decide +kernel
theorem dX7_instruction_82 : decode cX7_instruction 82 = .ok (.iconst 5, 1) := by decide +kernel
theorem dX7_instruction_83 : decode cX7_instruction 83 = .ok (.putfield 141, 3) := by decide +kernel
theorem dX7_instruction_86 : decode cX7_instruction 86 = .ok (.aload_n 0, 1) := by decide +kernel
theorem dX7_instruction_87 : decode cX7_instruction 87 = .ok (.iload_n 2, 1) := by decide +kernel
theorem dX7_instruction_88 : decode cX7_instruction 88 = .ok (.aload_n 0, 1) := by decide +kernel
theorem dX7_instruction_89 : decode cX7_instruction 89 = .ok (.iload_n 3, 1) := by decide +kernel
theorem dX7_instruction_90 : decode cX7_instruction 90 = .ok (.invokevirtual 159, 3) := by decide +kernel
theorem dX7_instruction_93 : decode cX7_instruction 93 = .ok (.invokevirtual 162, 3) := by decide +kernel
theorem dX7_instruction_96 : decode cX7_instruction 96 = .ok (.goto 45, 3) := by decide +kernel
theorem dX7_instruction_99 : decode cX7_instruction 99 = .ok (.iload_n 1, 1) := by decide +kernel
theorem dX7_instruction_100 : decode cX7_instruction 100 = .ok (.sipush 192, 3) := by decide +kernel
theorem dX7_instruction_103 : decode cX7_instruction 103 = .ok (.if_icmp .ge 32, 3) := by decide +kernel
theorem dX7_instruction_106 : decode cX7_instruction 106 = .ok (.aload_n 0, 1) := by decide +kernel
theorem dX7_instruction_107 : decode cX7_instruction 107 = .ok (.iload_n 3, 1) := by decide +kernel
theorem dX7_instruction_108 : decode cX7_instruction 108 = .ok (.bipush 6, 2) := by decide +kernel
theorem dX7_instruction_110 : decode cX7_instruction 110 = .ok (.if_icmp .ne 8, 3) := by decide +kernel
theorem dX7_instruction_113 : decode cX7_instruction 113 = .ok (.bipush 7, 2) := by decide +kernel
theorem dX7_instruction_115 : decode cX7_instruction 115 = .ok (.goto 4, 3) := by decide +kernel
theorem dX7_instruction_118 : decode cX7_instruction 118 = .ok (.iconst 4, 1) := by decide +kernel
theorem dX7_instruction_119 : decode cX7_instruction 119 = .ok (.putfield 141, 3) := by decide +kernel
theorem dX7_instruction_122 : decode cX7_instruction 122 = .ok (.aload_n 0, 1) := by decide +kernel
theorem dX7_instruction_123 : decode cX7_instruction 123 = .ok (.iload_n 2, 1) := by decide +kernel
theorem dX7_instruction_124 : decode cX7_instruction 124 = .ok (.aload_n 0, 1) := by decide +kernel
theorem dX7_instruction_125 : decode cX7_instruction 125 = .ok (.iload_n 3, 1) := by decide +kernel
theorem dX7_instruction_126 : decode cX7_instruction 126 = .ok (.invokevirtual 159, 3) := by decide +kernel
theorem dX7_instruction_129 : decode cX7_instruction 129 = .ok (.invokevirtual 187, 3) := by decide +kernel
theorem dX7_instruction_132 : decode cX7_instruction 132 = .ok (.goto 9, 3) := by decide +kernel
theorem dX7_instruction_135 : decode cX7_instruction 135 = .ok (.aload_n 0, 1) := by decide +kernel
theorem dX7_instruction_136 : decode cX7_instruction 136 = .ok (.iload_n 2, 1) := by decide +kernel
theorem dX7_instruction_137 : decode cX7_instruction 137 = .ok (.iload_n 3, 1) := by decide +kernel
theorem dX7_instruction_138 : decode cX7_instruction 138 = .ok (.invokevirtual 207, 3) := by decide +kernel
theorem dX7_instruction_141 : decode cX7_instruction 141 = .ok (.return_, 1) := by decide +kernel
set_option maxRecDepth 20000 in
theorem ggX7_step_X7_push : GoodIn wsX7_step wsX7_push := goodIn_r _ [12, 13, 14, 15, 16, 17, 11, 18, 19, 20, 21, 22, 23, 166, 167, 168, 169, 170, 171, 172, 173, 174, 175, 176, 177, 178, 179, 180, 181, 182, 183, 184, 185, 186, 187, 188, 189, 190, 191, 192, 193, 194, 195] (by decide +kernel) (by decide +kernel)
set_option maxRecDepth 20000 in
theorem gX7_step_X7_push : GoodIn wsX7_step (wsV RX7 168 RX7 yX7_push wsX7_push) := goodIn_app (goodIn_of _ (by decide +kernel)) ggX7_step_X7_push
set_option maxRecDepth 20000 in
theorem ggX7_step_X7_instruction : GoodIn wsX7_step wsX7_instruction := goodIn_r _ [27, 4, 5, 6, 28, 29, 30, 11, 31, 7, 14, 32, 33, 34, 35, 23, 36, 37, 38, 39, 40, 41, 42, 43, 44, 45, 46, 47, 48, 49, 50, 13, 51, 52, 53, 54, 55, 56, 57, 58, 59, 60, 61, 62, 15, 16, 17, 18, 19, 20, 21, 22, 63, 64, 65, 66, 67, 68, 69, 70, 71, 72, 73, 74, 75, 76, 77, 78, 79, 80, 81, 82, 83, 84, 85, 86, 87, 88, 89, 90, 91, 92, 93, 94, 95, 96, 97, 98, 99, 100, 101, 102, 103, 104, 105, 106, 107, 108, 109, 110, 111, 112, 113, 114, 115, 116, 117, 118, 119, 120, 121, 122, 123, 124, 125, 8, 9, 10, 12, 126, 127, 128, 129, 3, 130, 131, 132, 133, 134, 135, 136, 137, 138, 139, 140, 141, 142, 143, 144, 145, 146, 147, 148, 149, 150, 151, 152, 153, 154, 155, 166, 167, 168, 169, 170, 171, 172, 173, 174, 175, 176, 177, 178, 179, 180, 181, 182, 183, 184, 185, 186, 187, 188, 189, 190, 191, 192, 193, 194, 195] (by decide +kernel) (by decide +kernel)
set_option maxRecDepth 20000 in
theorem gX7_step_X7_instruction : GoodIn wsX7_step (wsV RX7 210 RX7 yX7_instruction wsX7_instruction) := goodIn_app (goodIn_of _ (by decide +kernel)) ggX7_step_X7_instruction
set_option maxRecDepth 20000 in
theorem ggX7_step_X7_pass : GoodIn wsX7_step wsX7_pass := goodIn_r _ [159, 160, 5, 140, 145, 144, 161, 162, 163, 11, 164, 141, 137, 165, 142, 143, 14, 139, 2, 19, 20, 21, 22, 23, 32, 33, 34, 35, 166, 167, 168, 169, 170, 171, 172, 173, 174, 175, 176, 177, 178, 179, 180, 181, 182, 183, 184, 185, 186, 187, 188, 189, 190, 191, 192, 193, 194, 195] (by decide +kernel) (by decide +kernel)
set_option maxRecDepth 20000 in
theorem gX7_step_X7_pass : GoodIn wsX7_step (wsV RX7 213 RX7 yX7_pass wsX7_pass) := goodIn_app (goodIn_of _ (by decide +kernel)) ggX7_step_X7_pass
theorem dX7_step_0 : decode cX7_step 0 = .ok (.aload_n 0, 1) := by decide +kernel
theorem dX7_step_1 : decode cX7_step 1 = .ok (.iload_n 1, 1) := by decide +kernel
theorem dX7_step_2 : decode cX7_step 2 = .ok (.ifCond .lt 10, 3) := by decide +kernel
theorem dX7_step_5 : decode cX7_step 5 = .ok (.iload_n 1, 1) := by decide +kernel
theorem dX7_step_6 : decode cX7_step 6 = .ok (.sipush 3000, 3) := by decide +kernel
theorem dX7_step_9 : decode cX7_step 9 = .ok (.if_icmp .le 7, 3) := by decide +kernel
theorem dX7_step_12 : decode cX7_step 12 = .ok (.iconst 1, 1) := by decide +kernel
theorem dX7_step_13 : decode cX7_step 13 = .ok (.goto 4, 3) := by decide +kernel
theorem dX7_step_16 : decode cX7_step 16 = .ok (.iconst 0, 1) := by decide +kernel
theorem dX7_step_17 : decode cX7_step 17 = .ok (.putfield 29, 3) := by decide +kernel
theorem dX7_step_20 : decode cX7_step 20 = .ok (.iconst 0, 1) := by decide +kernel
theorem dX7_step_21 : decode cX7_step 21 = .ok (.istore_n 2, 1) := by decide +kernel
theorem dX7_step_22 : decode cX7_step 22 = .ok (.iconst 0, 1) := by decide +kernel
theorem dX7_step_23 : decode cX7_step 23 = .ok (.istore_n 3, 1) := by decide +kernel
theorem dX7_step_24 : decode cX7_step 24 = .ok (.iload_n 3, 1) := by decide +kernel
theorem dX7_step_25 : decode cX7_step 25 = .ok (.iload_n 1, 1) := by decide +kernel
theorem dX7_step_26 : decode cX7_step 26 = .ok (.if_icmp .ge 115, 3) := by decide +kernel
theorem dX7_step_29 : decode cX7_step 29 = .ok (.aload_n 0, 1) := by decide +kernel
theorem dX7_step_30 : decode cX7_step 30 = .ok (.getfield 29, 3) := by decide +kernel
theorem dX7_step_33 : decode cX7_step 33 = .ok (.ifCond .ne 108, 3) := by decide +kernel
theorem dX7_step_36 : decode cX7_step 36 = .ok (.aload_n 0, 1) := by decide +kernel
theorem dX7_step_37 : decode cX7_step 37 = .ok (.getfield 19, 3) := by decide +kernel
theorem dX7_step_40 : decode cX7_step 40 = .ok (.ifCond .lt 60, 3) := by decide +kernel
theorem dX7_step_43 : decode cX7_step 43 = .ok (.aload_n 0, 1) := by decide +kernel
theorem dX7_step_44 : decode cX7_step 44 = .ok (.getfield 196, 3) := by decide +kernel
theorem dX7_step_47 : decode cX7_step 47 = .ok (.ifCond .eq 53, 3) := by decide +kernel
theorem dX7_step_50 : decode cX7_step 50 = .ok (.aload_n 0, 1) := by decide +kernel
theorem dX7_step_51 : decode cX7_step 51 = .ok (.getfield 199, 3) := by decide +kernel
theorem dX7_step_54 : decode cX7_step 54 = .ok (.ifCond .ne 46, 3) := by decide +kernel
theorem dX7_step_57 : decode cX7_step 57 = .ok (.aload_n 0, 1) := by decide +kernel
theorem dX7_step_58 : decode cX7_step 58 = .ok (.bipush 11, 2) := by decide +kernel
theorem dX7_step_60 : decode cX7_step 60 = .ok (.putfield 141, 3) := by decide +kernel
theorem dX7_step_63 : decode cX7_step 63 = .ok (.aload_n 0, 1) := by decide +kernel
theorem dX7_step_64 : decode cX7_step 64 = .ok (.iconst 0, 1) := by decide +kernel
theorem dX7_step_65 : decode cX7_step 65 = .ok (.putfield 196, 3) := by decide +kernel
theorem dX7_step_68 : decode cX7_step 68 = .ok (.aload_n 0, 1) := by decide +kernel
theorem dX7_step_69 : decode cX7_step 69 = .ok (.iconst 0, 1) := by decide +kernel
theorem dX7_step_70 : decode cX7_step 70 = .ok (.putfield 204, 3) := by decide +kernel
theorem dX7_step_73 : decode cX7_step 73 = .ok (.aload_n 0, 1) := by decide +kernel
theorem dX7_step_74 : decode cX7_step 74 = .ok (.aload_n 0, 1) := by decide +kernel
theorem dX7_step_75 : decode cX7_step 75 = .ok (.getfield 47, 3) := by decide +kernel
theorem dX7_step_78 : decode cX7_step 78 = .ok (.invokevirtual 168, 3) := by decide +kernel
theorem dX7_step_81 : decode cX7_step 81 = .ok (.aload_n 0, 1) := by decide +kernel
theorem dX7_step_82 : decode cX7_step 82 = .ok (.bipush 8, 2) := by decide +kernel
theorem dX7_step_84 : decode cX7_step 84 = .ok (.aload_n 0, 1) := by decide +kernel
theorem dX7_step_85 : decode cX7_step 85 = .ok (.getfield 19, 3) := by decide +kernel
theorem dX7_step_88 : decode cX7_step 88 = .ok (.imul, 1) := by decide +kernel
theorem dX7_step_89 : decode cX7_step 89 = .ok (.putfield 47, 3) := by decide +kernel
theorem dX7_step_92 : decode cX7_step 92 = .ok (.aload_n 0, 1) := by decide +kernel
theorem dX7_step_93 : decode cX7_step 93 = .ok (.iconst (-1), 1) := by decide +kernel
theorem dX7_step_94 : decode cX7_step 94 = .ok (.putfield 19, 3) := by decide +kernel
theorem dX7_step_97 : decode cX7_step 97 = .ok (.goto 27, 3) := by decide +kernel
theorem dX7_step_100 : decode cX7_step 100 = .ok (.aload_n 0, 1) := by decide +kernel
theorem dX7_step_101 : decode cX7_step 101 = .ok (.getfield 204, 3) := by decide +kernel
theorem dX7_step_104 : decode cX7_step 104 = .ok (.ifCond .eq 16, 3) := by decide +kernel
theorem dX7_step_107 : decode cX7_step 107 = .ok (.aload_n 0, 1) := by decide +kernel
theorem dX7_step_108 : decode cX7_step 108 = .ok (.iconst 4, 1) := by decide +kernel
theorem dX7_step_109 : decode cX7_step 109 = .ok (.putfield 141, 3) := by decide +kernel
theorem dX7_step_112 : decode cX7_step 112 = .ok (.aload_n 0, 1) := by decide +kernel
theorem dX7_step_113 : decode cX7_step 113 = .ok (.iconst 0, 1) := by decide +kernel
theorem dX7_step_114 : decode cX7_step 114 = .ok (.putfield 199, 3) := by decide +kernel
theorem dX7_step_117 : decode cX7_step 117 = .ok (.goto 7, 3) := by decide +kernel
theorem dX7_step_120 : decode cX7_step 120 = .ok (.aload_n 0, 1) := by decide +kernel
theorem dX7_step_121 : decode cX7_step 121 = .ok (.invokevirtual 210, 3) := by decide +kernel
theorem dX7_step_124 : decode cX7_step 124 = .ok (.aload_n 0, 1) := by decide +kernel
theorem dX7_step_125 : decode cX7_step 125 = .ok (.invokevirtual 213, 3) := by decide +kernel
theorem dX7_step_128 : decode cX7_step 128 = .ok (.iload_n 2, 1) := by decide +kernel
theorem dX7_step_129 : decode cX7_step 129 = .ok (.aload_n 0, 1) := by decide +kernel
theorem dX7_step_130 : decode cX7_step 130 = .ok (.getfield 141, 3) := by decide +kernel
theorem dX7_step_133 : decode cX7_step 133 = .ok (.iadd, 1) := by decide +kernel
theorem dX7_step_134 : decode cX7_step 134 = .ok (.istore_n 2, 1) := by decide +kernel
theorem dX7_step_135 : decode cX7_step 135 = .ok (.iinc 3 1, 3) := by decide +kernel
theorem dX7_step_138 : decode cX7_step 138 = .ok (.goto (-114), 3) := by decide +kernel
theorem dX7_step_141 : decode cX7_step 141 = .ok (.iload_n 2, 1) := by decide +kernel
theorem dX7_step_142 : decode cX7_step 142 = .ok (.ireturn, 1) := by decide +kernel
set_option maxRecDepth 20000 in
theorem ggX7_type_X7_noByte : GoodIn wsX7_type wsX7_noByte := goodIn_r _ [7] (by decide +kernel) (by decide +kernel)
set_option maxRecDepth 20000 in
theorem gX7_type_X7_noByte : GoodIn wsX7_type (va_wsS RX7 36 yX7_noByte wsX7_noByte) := goodIn_app (goodIn_of _ (by decide +kernel)) ggX7_type_X7_noByte
theorem dX7_type_0 : decode cX7_type 0 = .ok (.aload_n 0, 1) := by decide +kernel
theorem dX7_type_1 : decode cX7_type 1 = .ok (.iload_n 1, 1) := by decide +kernel
theorem dX7_type_2 : decode cX7_type 2 = .ok (.invokestatic 36, 3) := by decide +kernel
theorem dX7_type_5 : decode cX7_type 5 = .ok (.ifCond .eq 7, 3) := by decide +kernel
theorem dX7_type_8 : decode cX7_type 8 = .ok (.iconst 1, 1) := by decide +kernel
theorem dX7_type_9 : decode cX7_type 9 = .ok (.goto 4, 3) := by decide +kernel
theorem dX7_type_12 : decode cX7_type 12 = .ok (.iconst 0, 1) := by decide +kernel
theorem dX7_type_13 : decode cX7_type 13 = .ok (.putfield 29, 3) := by decide +kernel
theorem dX7_type_16 : decode cX7_type 16 = .ok (.aload_n 0, 1) := by decide +kernel
theorem dX7_type_17 : decode cX7_type 17 = .ok (.getfield 29, 3) := by decide +kernel
theorem dX7_type_20 : decode cX7_type 20 = .ok (.ifCond .le 5, 3) := by decide +kernel
theorem dX7_type_23 : decode cX7_type 23 = .ok (.iconst 0, 1) := by decide +kernel
theorem dX7_type_24 : decode cX7_type 24 = .ok (.ireturn, 1) := by decide +kernel
theorem dX7_type_25 : decode cX7_type 25 = .ok (.aload_n 0, 1) := by decide +kernel
theorem dX7_type_26 : decode cX7_type 26 = .ok (.getfield 103, 3) := by decide +kernel
theorem dX7_type_29 : decode cX7_type 29 = .ok (.bipush 64, 2) := by decide +kernel
theorem dX7_type_31 : decode cX7_type 31 = .ok (.if_icmp .ne 5, 3) := by decide +kernel
theorem dX7_type_34 : decode cX7_type 34 = .ok (.iconst (-1), 1) := by decide +kernel
theorem dX7_type_35 : decode cX7_type 35 = .ok (.ireturn, 1) := by decide +kernel
theorem dX7_type_36 : decode cX7_type 36 = .ok (.aload_n 0, 1) := by decide +kernel
theorem dX7_type_37 : decode cX7_type 37 = .ok (.getfield 23, 3) := by decide +kernel
theorem dX7_type_40 : decode cX7_type 40 = .ok (.aload_n 0, 1) := by decide +kernel
theorem dX7_type_41 : decode cX7_type 41 = .ok (.getfield 103, 3) := by decide +kernel
theorem dX7_type_44 : decode cX7_type 44 = .ok (.iload_n 1, 1) := by decide +kernel
theorem dX7_type_45 : decode cX7_type 45 = .ok (.iastore, 1) := by decide +kernel
theorem dX7_type_46 : decode cX7_type 46 = .ok (.aload_n 0, 1) := by decide +kernel
theorem dX7_type_47 : decode cX7_type 47 = .ok (.dup, 1) := by decide +kernel
theorem dX7_type_48 : decode cX7_type 48 = .ok (.getfield 103, 3) := by decide +kernel
theorem dX7_type_51 : decode cX7_type 51 = .ok (.iconst 1, 1) := by decide +kernel
theorem dX7_type_52 : decode cX7_type 52 = .ok (.iadd, 1) := by decide +kernel
theorem dX7_type_53 : decode cX7_type 53 = .ok (.putfield 103, 3) := by decide +kernel
theorem dX7_type_56 : decode cX7_type 56 = .ok (.aload_n 0, 1) := by decide +kernel
theorem dX7_type_57 : decode cX7_type 57 = .ok (.getfield 103, 3) := by decide +kernel
theorem dX7_type_60 : decode cX7_type 60 = .ok (.ireturn, 1) := by decide +kernel
theorem dX7_written_0 : decode cX7_written 0 = .ok (.aload_n 0, 1) := by decide +kernel
theorem dX7_written_1 : decode cX7_written 1 = .ok (.iconst 0, 1) := by decide +kernel
theorem dX7_written_2 : decode cX7_written 2 = .ok (.putfield 29, 3) := by decide +kernel
theorem dX7_written_5 : decode cX7_written 5 = .ok (.aload_n 0, 1) := by decide +kernel
theorem dX7_written_6 : decode cX7_written 6 = .ok (.getfield 109, 3) := by decide +kernel
theorem dX7_written_9 : decode cX7_written 9 = .ok (.ireturn, 1) := by decide +kernel
theorem dX7_text_0 : decode cX7_text 0 = .ok (.aload_n 0, 1) := by decide +kernel
theorem dX7_text_1 : decode cX7_text 1 = .ok (.iload_n 1, 1) := by decide +kernel
theorem dX7_text_2 : decode cX7_text 2 = .ok (.ifCond .lt 23, 3) := by decide +kernel
theorem dX7_text_5 : decode cX7_text 5 = .ok (.iload_n 1, 1) := by decide +kernel
theorem dX7_text_6 : decode cX7_text 6 = .ok (.aload_n 0, 1) := by decide +kernel
theorem dX7_text_7 : decode cX7_text 7 = .ok (.getfield 109, 3) := by decide +kernel
theorem dX7_text_10 : decode cX7_text 10 = .ok (.if_icmp .ge 15, 3) := by decide +kernel
theorem dX7_text_13 : decode cX7_text 13 = .ok (.iload_n 1, 1) := by decide +kernel
theorem dX7_text_14 : decode cX7_text 14 = .ok (.aload_n 0, 1) := by decide +kernel
theorem dX7_text_15 : decode cX7_text 15 = .ok (.getfield 109, 3) := by decide +kernel
theorem dX7_text_18 : decode cX7_text 18 = .ok (.sipush 256, 3) := by decide +kernel
theorem dX7_text_21 : decode cX7_text 21 = .ok (.isub, 1) := by decide +kernel
theorem dX7_text_22 : decode cX7_text 22 = .ok (.if_icmp .ge 7, 3) := by decide +kernel
theorem dX7_text_25 : decode cX7_text 25 = .ok (.iconst 1, 1) := by decide +kernel
theorem dX7_text_26 : decode cX7_text 26 = .ok (.goto 4, 3) := by decide +kernel
theorem dX7_text_29 : decode cX7_text 29 = .ok (.iconst 0, 1) := by decide +kernel
theorem dX7_text_30 : decode cX7_text 30 = .ok (.putfield 29, 3) := by decide +kernel
theorem dX7_text_33 : decode cX7_text 33 = .ok (.aload_n 0, 1) := by decide +kernel
theorem dX7_text_34 : decode cX7_text 34 = .ok (.getfield 29, 3) := by decide +kernel
theorem dX7_text_37 : decode cX7_text 37 = .ok (.ifCond .le 7, 3) := by decide +kernel
theorem dX7_text_40 : decode cX7_text 40 = .ok (.iconst 0, 1) := by decide +kernel
theorem dX7_text_41 : decode cX7_text 41 = .ok (.goto 13, 3) := by decide +kernel
theorem dX7_text_44 : decode cX7_text 44 = .ok (.aload_n 0, 1) := by decide +kernel
theorem dX7_text_45 : decode cX7_text 45 = .ok (.getfield 26, 3) := by decide +kernel
theorem dX7_text_48 : decode cX7_text 48 = .ok (.iload_n 1, 1) := by decide +kernel
theorem dX7_text_49 : decode cX7_text 49 = .ok (.sipush 256, 3) := by decide +kernel
theorem dX7_text_52 : decode cX7_text 52 = .ok (.irem, 1) := by decide +kernel
theorem dX7_text_53 : decode cX7_text 53 = .ok (.iaload, 1) := by decide +kernel
theorem dX7_text_54 : decode cX7_text 54 = .ok (.ireturn, 1) := by decide +kernel
theorem dX7_want_0 : decode cX7_want 0 = .ok (.aload_n 0, 1) := by decide +kernel
theorem dX7_want_1 : decode cX7_want 1 = .ok (.iload_n 1, 1) := by decide +kernel
theorem dX7_want_2 : decode cX7_want 2 = .ok (.ifCond .lt 9, 3) := by decide +kernel
theorem dX7_want_5 : decode cX7_want 5 = .ok (.iload_n 1, 1) := by decide +kernel
theorem dX7_want_6 : decode cX7_want 6 = .ok (.bipush 7, 2) := by decide +kernel
theorem dX7_want_8 : decode cX7_want 8 = .ok (.if_icmp .le 7, 3) := by decide +kernel
theorem dX7_want_11 : decode cX7_want 11 = .ok (.iconst 1, 1) := by decide +kernel
theorem dX7_want_12 : decode cX7_want 12 = .ok (.goto 4, 3) := by decide +kernel
theorem dX7_want_15 : decode cX7_want 15 = .ok (.iconst 0, 1) := by decide +kernel
theorem dX7_want_16 : decode cX7_want 16 = .ok (.putfield 29, 3) := by decide +kernel
theorem dX7_want_19 : decode cX7_want 19 = .ok (.aload_n 0, 1) := by decide +kernel
theorem dX7_want_20 : decode cX7_want 20 = .ok (.getfield 29, 3) := by decide +kernel
theorem dX7_want_23 : decode cX7_want 23 = .ok (.ifCond .ne 8, 3) := by decide +kernel
theorem dX7_want_26 : decode cX7_want 26 = .ok (.aload_n 0, 1) := by decide +kernel
theorem dX7_want_27 : decode cX7_want 27 = .ok (.iload_n 1, 1) := by decide +kernel
theorem dX7_want_28 : decode cX7_want 28 = .ok (.putfield 19, 3) := by decide +kernel
theorem dX7_want_31 : decode cX7_want 31 = .ok (.return_, 1) := by decide +kernel
theorem dX7_cycles_0 : decode cX7_cycles 0 = .ok (.aload_n 0, 1) := by decide +kernel
theorem dX7_cycles_1 : decode cX7_cycles 1 = .ok (.iconst 0, 1) := by decide +kernel
theorem dX7_cycles_2 : decode cX7_cycles 2 = .ok (.putfield 29, 3) := by decide +kernel
theorem dX7_cycles_5 : decode cX7_cycles 5 = .ok (.aload_n 0, 1) := by decide +kernel
theorem dX7_cycles_6 : decode cX7_cycles 6 = .ok (.getfield 137, 3) := by decide +kernel
theorem dX7_cycles_9 : decode cX7_cycles 9 = .ok (.lreturn, 1) := by decide +kernel
theorem dX7_told_0 : decode cX7_told 0 = .ok (.aload_n 0, 1) := by decide +kernel
theorem dX7_told_1 : decode cX7_told 1 = .ok (.iload_n 1, 1) := by decide +kernel
theorem dX7_told_2 : decode cX7_told 2 = .ok (.ifCond .lt 8, 3) := by decide +kernel
theorem dX7_told_5 : decode cX7_told 5 = .ok (.iload_n 1, 1) := by decide +kernel
theorem dX7_told_6 : decode cX7_told 6 = .ok (.iconst 5, 1) := by decide +kernel
theorem dX7_told_7 : decode cX7_told 7 = .ok (.if_icmp .le 7, 3) := by decide +kernel
theorem dX7_told_10 : decode cX7_told 10 = .ok (.iconst 1, 1) := by decide +kernel
theorem dX7_told_11 : decode cX7_told 11 = .ok (.goto 4, 3) := by decide +kernel
theorem dX7_told_14 : decode cX7_told 14 = .ok (.iconst 0, 1) := by decide +kernel
theorem dX7_told_15 : decode cX7_told 15 = .ok (.putfield 29, 3) := by decide +kernel
theorem dX7_told_18 : decode cX7_told 18 = .ok (.aload_n 0, 1) := by decide +kernel
theorem dX7_told_19 : decode cX7_told 19 = .ok (.getfield 29, 3) := by decide +kernel
theorem dX7_told_22 : decode cX7_told 22 = .ok (.ifCond .le 5, 3) := by decide +kernel
theorem dX7_told_25 : decode cX7_told 25 = .ok (.iconst 0, 1) := by decide +kernel
theorem dX7_told_26 : decode cX7_told 26 = .ok (.ireturn, 1) := by decide +kernel
theorem dX7_told_27 : decode cX7_told 27 = .ok (.iload_n 1, 1) := by decide +kernel
theorem dX7_told_28 : decode cX7_told 28 = .ok (.ifCond .ne 18, 3) := by decide +kernel
theorem dX7_told_31 : decode cX7_told 31 = .ok (.aload_n 0, 1) := by decide +kernel
theorem dX7_told_32 : decode cX7_told 32 = .ok (.getfield 204, 3) := by decide +kernel
theorem dX7_told_35 : decode cX7_told 35 = .ok (.ifCond .eq 7, 3) := by decide +kernel
theorem dX7_told_38 : decode cX7_told 38 = .ok (.iconst 1, 1) := by decide +kernel
theorem dX7_told_39 : decode cX7_told 39 = .ok (.goto 67, 3) := by decide +kernel
theorem dX7_told_42 : decode cX7_told 42 = .ok (.iconst 0, 1) := by decide +kernel
theorem dX7_told_43 : decode cX7_told 43 = .ok (.goto 63, 3) := by decide +kernel
theorem dX7_told_46 : decode cX7_told 46 = .ok (.iload_n 1, 1) := by decide +kernel
theorem dX7_told_47 : decode cX7_told 47 = .ok (.iconst 1, 1) := by decide +kernel
theorem dX7_told_48 : decode cX7_told 48 = .ok (.if_icmp .ne 18, 3) := by decide +kernel
theorem dX7_told_51 : decode cX7_told 51 = .ok (.aload_n 0, 1) := by decide +kernel
theorem dX7_told_52 : decode cX7_told 52 = .ok (.getfield 196, 3) := by decide +kernel
theorem dX7_told_55 : decode cX7_told 55 = .ok (.ifCond .eq 7, 3) := by decide +kernel
theorem dX7_told_58 : decode cX7_told 58 = .ok (.iconst 1, 1) := by decide +kernel
theorem dX7_told_59 : decode cX7_told 59 = .ok (.goto 47, 3) := by decide +kernel
theorem dX7_told_62 : decode cX7_told 62 = .ok (.iconst 0, 1) := by decide +kernel
theorem dX7_told_63 : decode cX7_told 63 = .ok (.goto 43, 3) := by decide +kernel
theorem dX7_told_66 : decode cX7_told 66 = .ok (.iload_n 1, 1) := by decide +kernel
theorem dX7_told_67 : decode cX7_told 67 = .ok (.iconst 2, 1) := by decide +kernel
theorem dX7_told_68 : decode cX7_told 68 = .ok (.if_icmp .ne 10, 3) := by decide +kernel
theorem dX7_told_71 : decode cX7_told 71 = .ok (.aload_n 0, 1) := by decide +kernel
theorem dX7_told_72 : decode cX7_told 72 = .ok (.getfield 19, 3) := by decide +kernel
theorem dX7_told_75 : decode cX7_told 75 = .ok (.goto 31, 3) := by decide +kernel
theorem dX7_told_78 : decode cX7_told 78 = .ok (.iload_n 1, 1) := by decide +kernel
theorem dX7_told_79 : decode cX7_told 79 = .ok (.iconst 3, 1) := by decide +kernel
theorem dX7_told_80 : decode cX7_told 80 = .ok (.if_icmp .ne 10, 3) := by decide +kernel
theorem dX7_told_83 : decode cX7_told 83 = .ok (.aload_n 0, 1) := by decide +kernel
theorem dX7_told_84 : decode cX7_told 84 = .ok (.getfield 106, 3) := by decide +kernel
theorem dX7_told_87 : decode cX7_told 87 = .ok (.goto 19, 3) := by decide +kernel
theorem dX7_told_90 : decode cX7_told 90 = .ok (.iload_n 1, 1) := by decide +kernel
theorem dX7_told_91 : decode cX7_told 91 = .ok (.iconst 4, 1) := by decide +kernel
theorem dX7_told_92 : decode cX7_told 92 = .ok (.if_icmp .ne 10, 3) := by decide +kernel
theorem dX7_told_95 : decode cX7_told 95 = .ok (.aload_n 0, 1) := by decide +kernel
theorem dX7_told_96 : decode cX7_told 96 = .ok (.getfield 128, 3) := by decide +kernel
theorem dX7_told_99 : decode cX7_told 99 = .ok (.goto 7, 3) := by decide +kernel
theorem dX7_told_102 : decode cX7_told 102 = .ok (.aload_n 0, 1) := by decide +kernel
theorem dX7_told_103 : decode cX7_told 103 = .ok (.getfield 115, 3) := by decide +kernel
theorem dX7_told_106 : decode cX7_told 106 = .ok (.ireturn, 1) := by decide +kernel
theorem dJ6_bitCount_0f7a4_0 : decode cJ6_bitCount_0f7a4 0 = .ok (.iload_n 0, 1) := by decide +kernel
theorem dJ6_bitCount_0f7a4_1 : decode cJ6_bitCount_0f7a4 1 = .ok (.iload_n 0, 1) := by decide +kernel
theorem dJ6_bitCount_0f7a4_2 : decode cJ6_bitCount_0f7a4 2 = .ok (.iconst 1, 1) := by decide +kernel
theorem dJ6_bitCount_0f7a4_3 : decode cJ6_bitCount_0f7a4 3 = .ok (.iushr, 1) := by decide +kernel
theorem dJ6_bitCount_0f7a4_4 : decode cJ6_bitCount_0f7a4 4 = .ok (.ldc_w 265, 3) := by decide +kernel
theorem dJ6_bitCount_0f7a4_7 : decode cJ6_bitCount_0f7a4 7 = .ok (.iand, 1) := by decide +kernel
theorem dJ6_bitCount_0f7a4_8 : decode cJ6_bitCount_0f7a4 8 = .ok (.isub, 1) := by decide +kernel
theorem dJ6_bitCount_0f7a4_9 : decode cJ6_bitCount_0f7a4 9 = .ok (.istore_n 0, 1) := by decide +kernel
theorem dJ6_bitCount_0f7a4_10 : decode cJ6_bitCount_0f7a4 10 = .ok (.iload_n 0, 1) := by decide +kernel
theorem dJ6_bitCount_0f7a4_11 : decode cJ6_bitCount_0f7a4 11 = .ok (.ldc_w 266, 3) := by decide +kernel
theorem dJ6_bitCount_0f7a4_14 : decode cJ6_bitCount_0f7a4 14 = .ok (.iand, 1) := by decide +kernel
theorem dJ6_bitCount_0f7a4_15 : decode cJ6_bitCount_0f7a4 15 = .ok (.iload_n 0, 1) := by decide +kernel
theorem dJ6_bitCount_0f7a4_16 : decode cJ6_bitCount_0f7a4 16 = .ok (.iconst 2, 1) := by decide +kernel
theorem dJ6_bitCount_0f7a4_17 : decode cJ6_bitCount_0f7a4 17 = .ok (.iushr, 1) := by decide +kernel
theorem dJ6_bitCount_0f7a4_18 : decode cJ6_bitCount_0f7a4 18 = .ok (.ldc_w 266, 3) := by decide +kernel
theorem dJ6_bitCount_0f7a4_21 : decode cJ6_bitCount_0f7a4 21 = .ok (.iand, 1) := by decide +kernel
theorem dJ6_bitCount_0f7a4_22 : decode cJ6_bitCount_0f7a4 22 = .ok (.iadd, 1) := by decide +kernel
theorem dJ6_bitCount_0f7a4_23 : decode cJ6_bitCount_0f7a4 23 = .ok (.istore_n 0, 1) := by decide +kernel
theorem dJ6_bitCount_0f7a4_24 : decode cJ6_bitCount_0f7a4 24 = .ok (.iload_n 0, 1) := by decide +kernel
theorem dJ6_bitCount_0f7a4_25 : decode cJ6_bitCount_0f7a4 25 = .ok (.iload_n 0, 1) := by decide +kernel
theorem dJ6_bitCount_0f7a4_26 : decode cJ6_bitCount_0f7a4 26 = .ok (.iconst 4, 1) := by decide +kernel
theorem dJ6_bitCount_0f7a4_27 : decode cJ6_bitCount_0f7a4 27 = .ok (.iushr, 1) := by decide +kernel
theorem dJ6_bitCount_0f7a4_28 : decode cJ6_bitCount_0f7a4 28 = .ok (.iadd, 1) := by decide +kernel
theorem dJ6_bitCount_0f7a4_29 : decode cJ6_bitCount_0f7a4 29 = .ok (.ldc_w 267, 3) := by decide +kernel
theorem dJ6_bitCount_0f7a4_32 : decode cJ6_bitCount_0f7a4 32 = .ok (.iand, 1) := by decide +kernel
theorem dJ6_bitCount_0f7a4_33 : decode cJ6_bitCount_0f7a4 33 = .ok (.istore_n 0, 1) := by decide +kernel
theorem dJ6_bitCount_0f7a4_34 : decode cJ6_bitCount_0f7a4 34 = .ok (.iload_n 0, 1) := by decide +kernel
theorem dJ6_bitCount_0f7a4_35 : decode cJ6_bitCount_0f7a4 35 = .ok (.iload_n 0, 1) := by decide +kernel
theorem dJ6_bitCount_0f7a4_36 : decode cJ6_bitCount_0f7a4 36 = .ok (.bipush 8, 2) := by decide +kernel
theorem dJ6_bitCount_0f7a4_38 : decode cJ6_bitCount_0f7a4 38 = .ok (.iushr, 1) := by decide +kernel
theorem dJ6_bitCount_0f7a4_39 : decode cJ6_bitCount_0f7a4 39 = .ok (.iadd, 1) := by decide +kernel
theorem dJ6_bitCount_0f7a4_40 : decode cJ6_bitCount_0f7a4 40 = .ok (.istore_n 0, 1) := by decide +kernel
theorem dJ6_bitCount_0f7a4_41 : decode cJ6_bitCount_0f7a4 41 = .ok (.iload_n 0, 1) := by decide +kernel
theorem dJ6_bitCount_0f7a4_42 : decode cJ6_bitCount_0f7a4 42 = .ok (.iload_n 0, 1) := by decide +kernel
theorem dJ6_bitCount_0f7a4_43 : decode cJ6_bitCount_0f7a4 43 = .ok (.bipush 16, 2) := by decide +kernel
theorem dJ6_bitCount_0f7a4_45 : decode cJ6_bitCount_0f7a4 45 = .ok (.iushr, 1) := by decide +kernel
theorem dJ6_bitCount_0f7a4_46 : decode cJ6_bitCount_0f7a4 46 = .ok (.iadd, 1) := by decide +kernel
theorem dJ6_bitCount_0f7a4_47 : decode cJ6_bitCount_0f7a4 47 = .ok (.istore_n 0, 1) := by decide +kernel
theorem dJ6_bitCount_0f7a4_48 : decode cJ6_bitCount_0f7a4 48 = .ok (.iload_n 0, 1) := by decide +kernel
theorem dJ6_bitCount_0f7a4_49 : decode cJ6_bitCount_0f7a4 49 = .ok (.bipush 63, 2) := by decide +kernel
theorem dJ6_bitCount_0f7a4_51 : decode cJ6_bitCount_0f7a4 51 = .ok (.iand, 1) := by decide +kernel
theorem dJ6_bitCount_0f7a4_52 : decode cJ6_bitCount_0f7a4 52 = .ok (.ireturn, 1) := by decide +kernel
