theorem dX7_instruction_74 : decode cX7_instruction 74 = .ok (.if_icmp .ne 8, 3) := by decide +kernel
theorem dX7_instruction_77 : decode cX7_instruction 77 = .ok (.bipush 7, 2) := by decide +kernel
theorem dX7_instruction_79 : decode cX7_instruction 79 = .ok (.goto 4, 3) := by decide +kernel
theorem dX7_instruction_82 : decode cX7_instruction 82 = .ok (.iconst 5, 1) := by decide +kernel
theorem dX7_instruction_83 : decode cX7_instruction 83 = .ok (.putfield 141, 3) := by decide +kernel
theorem dX7_instruction_86 : decode cX7_instruction 86 = .ok (.aload_n 0, 1) := by decide +kernel
theorem dX7_instruction_87 : decode cX7_instruction 87 = .ok (.iload_n 2, 1) := by decide +kernel
theorem dX7_instruction_88 : decode cX7_instruction 88 = .ok (.aload_n 0, 1) := by decide +kernel
theorem dX7_instruction_89 : decode cX7_instruction 89 = .ok (.iload_n 3, 1) := by decide +kernel
theorem dX7_instruction_90 : decode cX7_instruction 90 = .ok (.invokevirtual 159, 3) := by decide +kernel
theorem dX7_instruction_93 : decode cX7_instruction 93 = .ok (.invokevirtual 162, 3) := by decide +kernel
theorem dX7_instruction_96 : decode cX7_instruction 96 = .ok (.goto 45, 3) := by decide +kernel
theorem dX7_instruction_99 : decode cX7_instruction 99 = .ok (.iload_n 1, 1) := by decide +kernel
theorem dX7_instruction_100 : decode cX7_instruction 100 = .ok (.sipush 192, 3) := by decide +kernel
theorem dX7_instruction_103 : decode cX7_instruction 103 = .ok (.if_icmp .ge 32, 3) := by decide +kernel
theorem dX7_instruction_106 : decode cX7_instruction 106 = .ok (.aload_n 0, 1) := by decide +kernel
theorem dX7_instruction_107 : decode cX7_instruction 107 = .ok (.iload_n 3, 1) := by decide +kernel
theorem dX7_instruction_108 : decode cX7_instruction 108 = .ok (.bipush 6, 2) := by decide +kernel
theorem dX7_instruction_110 : decode cX7_instruction 110 = .ok (.if_icmp .ne 8, 3) := by decide +kernel
theorem dX7_instruction_113 : decode cX7_instruction 113 = .ok (.bipush 7, 2) := by decide +kernel
theorem dX7_instruction_115 : decode cX7_instruction 115 = .ok (.goto 4, 3) := by decide +kernel
theorem dX7_instruction_118 : decode cX7_instruction 118 = .ok (.iconst 4, 1) := by decide +kernel
theorem dX7_instruction_119 : decode cX7_instruction 119 = .ok (.putfield 141, 3) := by decide +kernel
theorem dX7_instruction_122 : decode cX7_instruction 122 = .ok (.aload_n 0, 1) := by decide +kernel
theorem dX7_instruction_123 : decode cX7_instruction 123 = .ok (.iload_n 2, 1) := by decide +kernel
theorem dX7_instruction_124 : decode cX7_instruction 124 = .ok (.aload_n 0, 1) := by decide +kernel
theorem dX7_instruction_125 : decode cX7_instruction 125 = .ok (.iload_n 3, 1) := by decide +kernel
theorem dX7_instruction_126 : decode cX7_instruction 126 = .ok (.invokevirtual 159, 3) := by decide +kernel
theorem dX7_instruction_129 : decode cX7_instruction 129 = .ok (.invokevirtual 187, 3) := by decide +kernel
theorem dX7_instruction_132 : decode cX7_instruction 132 = .ok (.goto 9, 3) := by decide +kernel
theorem dX7_instruction_135 : decode cX7_instruction 135 = .ok (.aload_n 0, 1) := by decide +kernel
theorem dX7_instruction_136 : decode cX7_instruction 136 = .ok (.iload_n 2, 1) := by decide +kernel
theorem dX7_instruction_137 : decode cX7_instruction 137 = .ok (.iload_n 3, 1) := by decide +kernel
theorem dX7_instruction_138 : decode cX7_instruction 138 = .ok (.invokevirtual 207, 3) := by decide +kernel
theorem dX7_instruction_141 : decode cX7_instruction 141 = .ok (.return_, 1) := by decide +kernel
set_option maxRecDepth 20000 in
theorem ggX7_step_X7_push : GoodIn wsX7_step wsX7_push := goodIn_r _ [12, 13, 14, 15, 16, 17, 11, 18, 19, 20, 21, 22, 23, 166, 167, 168, 169, 170, 171, 172, 173, 174, 175, 176, 177, 178, 179, 180, 181, 182, 183, 184, 185, 186, 187, 188, 189, 190, 191, 192, 193, 194, 195] rfl (by decide +kernel)
set_option maxRecDepth 20000 in
theorem gX7_step_X7_push : GoodIn wsX7_step (wsV RX7 168 RX7 yX7_push wsX7_push) := goodIn_app (goodIn_of _ (by decide +kernel)) ggX7_step_X7_push
set_option maxRecDepth 20000 in
theorem ggX7_step_X7_instruction : GoodIn wsX7_step wsX7_instruction := goodIn_r _ [27, 4, 5, 6, 28, 29, 30, 11, 31, 7, 14, 32, 33, 34, 35, 23, 36, 37, 38, 39, 40, 41, 42, 43, 44, 45, 46, 47, 48, 49, 50, 13, 51, 52, 53, 54, 55, 56, 57, 58, 59, 60, 61, 62, 15, 16, 17, 18, 19, 20, 21, 22, 63, 64, 65, 66, 67, 68, 69, 70, 71, 72, 73, 74, 75, 76, 77, 78, 79, 80, 81, 82, 83, 84, 85, 86, 87, 88, 89, 90, 91, 92, 93, 94, 95, 96, 97, 98, 99, 100, 101, 102, 103, 104, 105, 106, 107, 108, 109, 110, 111, 112, 113, 114, 115, 116, 117, 118, 119, 120, 121, 122, 123, 124, 125, 8, 9, 10, 12, 126, 127, 128, 129, 3, 130, 131, 132, 133, 134, 135, 136, 137, 138, 139, 140, 141, 142, 143, 144, 145, 146, 147, 148, 149, 150, 151, 152, 153, 154, 155, 166, 167, 168, 169, 170, 171, 172, 173, 174, 175, 176, 177, 178, 179, 180, 181, 182, 183, 184, 185, 186, 187, 188, 189, 190, 191, 192, 193, 194, 195] rfl (by decide +kernel)
set_option maxRecDepth 20000 in
theorem gX7_step_X7_instruction : GoodIn wsX7_step (wsV RX7 210 RX7 yX7_instruction wsX7_instruction) := goodIn_app (goodIn_of _ (by decide +kernel)) ggX7_step_X7_instruction
set_option maxRecDepth 20000 in
theorem ggX7_step_X7_pass : GoodIn wsX7_step wsX7_pass := goodIn_r _ [159, 160, 5, 140, 145, 144, 161, 162, 163, 11, 164, 141, 137, 165, 142, 143, 14, 139, 2, 19, 20, 21, 22, 23, 32, 33, 34, 35, 166, 167, 168, 169, 170, 171, 172, 173, 174, 175, 176, 177, 178, 179, 180, 181, 182, 183, 184, 185, 186, 187, 188, 189, 190, 191, 192, 193, 194, 195] rfl (by decide +kernel)
