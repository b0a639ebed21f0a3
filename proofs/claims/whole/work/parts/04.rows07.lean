theorem dX7_turn_164 : decode cX7_turn 164 = .ok (.iand, 1) := by decide +kernel
theorem dX7_turn_165 : decode cX7_turn 165 = .ok (.iload_n 3, 1) := by decide +kernel
theorem dX7_turn_166 : decode cX7_turn 166 = .ok (.ior, 1) := by decide +kernel
theorem dX7_turn_167 : decode cX7_turn 167 = .ok (.iastore, 1) := by decide +kernel
theorem dX7_turn_168 : decode cX7_turn 168 = .ok (.goto 83, 3) := by decide +kernel
theorem dX7_turn_171 : decode cX7_turn 171 = .ok (.aload_n 0, 1) := by decide +kernel
theorem dX7_turn_172 : decode cX7_turn 172 = .ok (.iload_n 2, 1) := by decide +kernel
theorem dX7_turn_173 : decode cX7_turn 173 = .ok (.iconst 1, 1) := by decide +kernel
theorem dX7_turn_174 : decode cX7_turn 174 = .ok (.iand, 1) := by decide +kernel
theorem dX7_turn_175 : decode cX7_turn 175 = .ok (.iconst 1, 1) := by decide +kernel
theorem dX7_turn_176 : decode cX7_turn 176 = .ok (.if_icmp .ne 7, 3) := by decide +kernel
theorem dX7_turn_179 : decode cX7_turn 179 = .ok (.iconst 1, 1) := by decide +kernel
theorem dX7_turn_180 : decode cX7_turn 180 = .ok (.goto 4, 3) := by decide +kernel
theorem dX7_turn_183 : decode cX7_turn 183 = .ok (.iconst 0, 1) := by decide +kernel
theorem dX7_turn_184 : decode cX7_turn 184 = .ok (.putfield 80, 3) := by decide +kernel
theorem dX7_turn_187 : decode cX7_turn 187 = .ok (.aload_n 0, 1) := by decide +kernel
theorem dX7_turn_188 : decode cX7_turn 188 = .ok (.getfield 16, 3) := by decide +kernel
theorem dX7_turn_191 : decode cX7_turn 191 = .ok (.bipush 7, 2) := by decide +kernel
theorem dX7_turn_193 : decode cX7_turn 193 = .ok (.iload_n 2, 1) := by decide +kernel
theorem dX7_turn_194 : decode cX7_turn 194 = .ok (.iconst 1, 1) := by decide +kernel
theorem dX7_turn_195 : decode cX7_turn 195 = .ok (.ishr, 1) := by decide +kernel
theorem dX7_turn_196 : decode cX7_turn 196 = .ok (.iload_n 3, 1) := by decide +kernel
theorem dX7_turn_197 : decode cX7_turn 197 = .ok (.bipush 7, 2) := by decide +kernel
theorem dX7_turn_199 : decode cX7_turn 199 = .ok (.ishl, 1) := by decide +kernel
theorem dX7_turn_200 : decode cX7_turn 200 = .ok (.ior, 1) := by decide +kernel
theorem dX7_turn_201 : decode cX7_turn 201 = .ok (.iastore, 1) := by decide +kernel
theorem dX7_turn_202 : decode cX7_turn 202 = .ok (.goto 49, 3) := by decide +kernel
theorem dX7_turn_205 : decode cX7_turn 205 = .ok (.aload_n 0, 1) := by decide +kernel
theorem dX7_turn_206 : decode cX7_turn 206 = .ok (.invokevirtual 100, 3) := by decide +kernel
theorem dX7_turn_209 : decode cX7_turn 209 = .ok (.goto 42, 3) := by decide +kernel
theorem dX7_turn_212 : decode cX7_turn 212 = .ok (.aload_n 0, 1) := by decide +kernel
theorem dX7_turn_213 : decode cX7_turn 213 = .ok (.getfield 16, 3) := by decide +kernel
theorem dX7_turn_216 : decode cX7_turn 216 = .ok (.bipush 7, 2) := by decide +kernel
theorem dX7_turn_218 : decode cX7_turn 218 = .ok (.sipush 255, 3) := by decide +kernel
theorem dX7_turn_221 : decode cX7_turn 221 = .ok (.iload_n 2, 1) := by decide +kernel
theorem dX7_turn_222 : decode cX7_turn 222 = .ok (.isub, 1) := by decide +kernel
theorem dX7_turn_223 : decode cX7_turn 223 = .ok (.iastore, 1) := by decide +kernel
theorem dX7_turn_224 : decode cX7_turn 224 = .ok (.goto 27, 3) := by decide +kernel
theorem dX7_turn_227 : decode cX7_turn 227 = .ok (.aload_n 0, 1) := by decide +kernel
theorem dX7_turn_228 : decode cX7_turn 228 = .ok (.iconst 1, 1) := by decide +kernel
theorem dX7_turn_229 : decode cX7_turn 229 = .ok (.putfield 80, 3) := by decide +kernel
theorem dX7_turn_232 : decode cX7_turn 232 = .ok (.goto 19, 3) := by decide +kernel
theorem dX7_turn_235 : decode cX7_turn 235 = .ok (.aload_n 0, 1) := by decide +kernel
theorem dX7_turn_236 : decode cX7_turn 236 = .ok (.aload_n 0, 1) := by decide +kernel
theorem dX7_turn_237 : decode cX7_turn 237 = .ok (.getfield 80, 3) := by decide +kernel
theorem dX7_turn_240 : decode cX7_turn 240 = .ok (.ifCond .ne 7, 3) := by decide +kernel
theorem dX7_turn_243 : decode cX7_turn 243 = .ok (.iconst 1, 1) := by decide +kernel
theorem dX7_turn_244 : decode cX7_turn 244 = .ok (.goto 4, 3) := by decide +kernel
theorem dX7_turn_247 : decode cX7_turn 247 = .ok (.iconst 0, 1) := by decide +kernel
theorem dX7_turn_248 : decode cX7_turn 248 = .ok (.putfield 80, 3) := by decide +kernel
theorem dX7_turn_251 : decode cX7_turn 251 = .ok (.return_, 1) := by decide +kernel
theorem dX7_in_0 : decode cX7_in 0 = .ok (.iload_n 1, 1) := by decide +kernel
theorem dX7_in_1 : decode cX7_in 1 = .ok (.ifCond .ne 16, 3) := by decide +kernel
theorem dX7_in_4 : decode cX7_in 4 = .ok (.aload_n 0, 1) := by decide +kernel
theorem dX7_in_5 : decode cX7_in 5 = .ok (.getfield 103, 3) := by decide +kernel
theorem dX7_in_8 : decode cX7_in 8 = .ok (.ifCond .le 7, 3) := by decide +kernel
theorem dX7_in_11 : decode cX7_in 11 = .ok (.iconst 1, 1) := by decide +kernel
theorem dX7_in_12 : decode cX7_in 12 = .ok (.goto 4, 3) := by decide +kernel
theorem dX7_in_15 : decode cX7_in 15 = .ok (.iconst 0, 1) := by decide +kernel
theorem dX7_in_16 : decode cX7_in 16 = .ok (.ireturn, 1) := by decide +kernel
theorem dX7_in_17 : decode cX7_in 17 = .ok (.iload_n 1, 1) := by decide +kernel
theorem dX7_in_18 : decode cX7_in 18 = .ok (.iconst 1, 1) := by decide +kernel
theorem dX7_in_19 : decode cX7_in 19 = .ok (.if_icmp .ne 74, 3) := by decide +kernel
theorem dX7_in_22 : decode cX7_in 22 = .ok (.aload_n 0, 1) := by decide +kernel
theorem dX7_in_23 : decode cX7_in 23 = .ok (.getfield 103, 3) := by decide +kernel
theorem dX7_in_26 : decode cX7_in 26 = .ok (.ifCond .le 12, 3) := by decide +kernel
theorem dX7_in_29 : decode cX7_in 29 = .ok (.aload_n 0, 1) := by decide +kernel
theorem dX7_in_30 : decode cX7_in 30 = .ok (.getfield 23, 3) := by decide +kernel
theorem dX7_in_33 : decode cX7_in 33 = .ok (.iconst 0, 1) := by decide +kernel
theorem dX7_in_34 : decode cX7_in 34 = .ok (.iaload, 1) := by decide +kernel
theorem dX7_in_35 : decode cX7_in 35 = .ok (.goto 4, 3) := by decide +kernel
theorem dX7_in_38 : decode cX7_in 38 = .ok (.iconst 0, 1) := by decide +kernel
theorem dX7_in_39 : decode cX7_in 39 = .ok (.istore_n 2, 1) := by decide +kernel
theorem dX7_in_40 : decode cX7_in 40 = .ok (.iconst 1, 1) := by decide +kernel
theorem dX7_in_41 : decode cX7_in 41 = .ok (.istore_n 3, 1) := by decide +kernel
theorem dX7_in_42 : decode cX7_in 42 = .ok (.iload_n 3, 1) := by decide +kernel
theorem dX7_in_43 : decode cX7_in 43 = .ok (.aload_n 0, 1) := by decide +kernel
theorem dX7_in_44 : decode cX7_in 44 = .ok (.getfield 103, 3) := by decide +kernel
theorem dX7_in_47 : decode cX7_in 47 = .ok (.if_icmp .ge 23, 3) := by decide +kernel
theorem dX7_in_50 : decode cX7_in 50 = .ok (.aload_n 0, 1) := by decide +kernel
theorem dX7_in_51 : decode cX7_in 51 = .ok (.getfield 23, 3) := by decide +kernel
theorem dX7_in_54 : decode cX7_in 54 = .ok (.iload_n 3, 1) := by decide +kernel
theorem dX7_in_55 : decode cX7_in 55 = .ok (.iconst 1, 1) := by decide +kernel
theorem dX7_in_56 : decode cX7_in 56 = .ok (.isub, 1) := by decide +kernel
theorem dX7_in_57 : decode cX7_in 57 = .ok (.aload_n 0, 1) := by decide +kernel
theorem dX7_in_58 : decode cX7_in 58 = .ok (.getfield 23, 3) := by decide +kernel
theorem dX7_in_61 : decode cX7_in 61 = .ok (.iload_n 3, 1) := by decide +kernel
theorem dX7_in_62 : decode cX7_in 62 = .ok (.iaload, 1) := by decide +kernel
theorem dX7_in_63 : decode cX7_in 63 = .ok (.iastore, 1) := by decide +kernel
theorem dX7_in_64 : decode cX7_in 64 = .ok (.iinc 3 1, 3) := by decide +kernel
theorem dX7_in_67 : decode cX7_in 67 = .ok (.goto (-25), 3) := by decide +kernel
theorem dX7_in_70 : decode cX7_in 70 = .ok (.aload_n 0, 1) := by decide +kernel
theorem dX7_in_71 : decode cX7_in 71 = .ok (.aload_n 0, 1) := by decide +kernel
theorem dX7_in_72 : decode cX7_in 72 = .ok (.getfield 103, 3) := by decide +kernel
theorem dX7_in_75 : decode cX7_in 75 = .ok (.ifCond .le 12, 3) := by decide +kernel
theorem dX7_in_78 : decode cX7_in 78 = .ok (.aload_n 0, 1) := by decide +kernel
theorem dX7_in_79 : decode cX7_in 79 = .ok (.getfield 103, 3) := by decide +kernel
theorem dX7_in_82 : decode cX7_in 82 = .ok (.iconst 1, 1) := by decide +kernel
theorem dX7_in_83 : decode cX7_in 83 = .ok (.isub, 1) := by decide +kernel
theorem dX7_in_84 : decode cX7_in 84 = .ok (.goto 4, 3) := by decide +kernel
theorem dX7_in_87 : decode cX7_in 87 = .ok (.iconst 0, 1) := by decide +kernel
theorem dX7_in_88 : decode cX7_in 88 = .ok (.putfield 103, 3) := by decide +kernel
theorem dX7_in_91 : decode cX7_in 91 = .ok (.iload_n 2, 1) := by decide +kernel
theorem dX7_in_92 : decode cX7_in 92 = .ok (.ireturn, 1) := by decide +kernel
theorem dX7_in_93 : decode cX7_in 93 = .ok (.iload_n 1, 1) := by decide +kernel
theorem dX7_in_94 : decode cX7_in 94 = .ok (.bipush 6, 2) := by decide +kernel
theorem dX7_in_96 : decode cX7_in 96 = .ok (.if_icmp .ne 20, 3) := by decide +kernel
theorem dX7_in_99 : decode cX7_in 99 = .ok (.aload_n 0, 1) := by decide +kernel
theorem dX7_in_100 : decode cX7_in 100 = .ok (.getfield 106, 3) := by decide +kernel
theorem dX7_in_103 : decode cX7_in 103 = .ok (.istore_n 2, 1) := by decide +kernel
theorem dX7_in_104 : decode cX7_in 104 = .ok (.aload_n 0, 1) := by decide +kernel
theorem dX7_in_105 : decode cX7_in 105 = .ok (.aload_n 0, 1) := by decide +kernel
theorem dX7_in_106 : decode cX7_in 106 = .ok (.getfield 106, 3) := by decide +kernel
theorem dX7_in_109 : decode cX7_in 109 = .ok (.iconst 1, 1) := by decide +kernel
theorem dX7_in_110 : decode cX7_in 110 = .ok (.iand, 1) := by decide +kernel
theorem dX7_in_111 : decode cX7_in 111 = .ok (.putfield 106, 3) := by decide +kernel
theorem dX7_in_114 : decode cX7_in 114 = .ok (.iload_n 2, 1) := by decide +kernel
theorem dX7_in_115 : decode cX7_in 115 = .ok (.ireturn, 1) := by decide +kernel
theorem dX7_in_116 : decode cX7_in 116 = .ok (.sipush 255, 3) := by decide +kernel
theorem dX7_in_119 : decode cX7_in 119 = .ok (.ireturn, 1) := by decide +kernel
theorem dX7_out_0 : decode cX7_out 0 = .ok (.iload_n 1, 1) := by decide +kernel
theorem dX7_out_1 : decode cX7_out 1 = .ok (.iconst 1, 1) := by decide +kernel
theorem dX7_out_2 : decode cX7_out 2 = .ok (.if_icmp .ne 30, 3) := by decide +kernel
theorem dX7_out_5 : decode cX7_out 5 = .ok (.aload_n 0, 1) := by decide +kernel
theorem dX7_out_6 : decode cX7_out 6 = .ok (.getfield 26, 3) := by decide +kernel
theorem dX7_out_9 : decode cX7_out 9 = .ok (.aload_n 0, 1) := by decide +kernel
theorem dX7_out_10 : decode cX7_out 10 = .ok (.getfield 109, 3) := by decide +kernel
theorem dX7_out_13 : decode cX7_out 13 = .ok (.sipush 256, 3) := by decide +kernel
theorem dX7_out_16 : decode cX7_out 16 = .ok (.irem, 1) := by decide +kernel
theorem dX7_out_17 : decode cX7_out 17 = .ok (.iload_n 2, 1) := by decide +kernel
theorem dX7_out_18 : decode cX7_out 18 = .ok (.iastore, 1) := by decide +kernel
theorem dX7_out_19 : decode cX7_out 19 = .ok (.aload_n 0, 1) := by decide +kernel
theorem dX7_out_20 : decode cX7_out 20 = .ok (.dup, 1) := by decide +kernel
theorem dX7_out_21 : decode cX7_out 21 = .ok (.getfield 109, 3) := by decide +kernel
theorem dX7_out_24 : decode cX7_out 24 = .ok (.iconst 1, 1) := by decide +kernel
theorem dX7_out_25 : decode cX7_out 25 = .ok (.iadd, 1) := by decide +kernel
theorem dX7_out_26 : decode cX7_out 26 = .ok (.putfield 109, 3) := by decide +kernel
theorem dX7_out_29 : decode cX7_out 29 = .ok (.goto 163, 3) := by decide +kernel
theorem dX7_out_32 : decode cX7_out 32 = .ok (.iload_n 1, 1) := by decide +kernel
theorem dX7_out_33 : decode cX7_out 33 = .ok (.iconst 2, 1) := by decide +kernel
theorem dX7_out_34 : decode cX7_out 34 = .ok (.if_icmp .ne 11, 3) := by decide +kernel
theorem dX7_out_37 : decode cX7_out 37 = .ok (.aload_n 0, 1) := by decide +kernel
theorem dX7_out_38 : decode cX7_out 38 = .ok (.iload_n 2, 1) := by decide +kernel
theorem dX7_out_39 : decode cX7_out 39 = .ok (.putfield 112, 3) := by decide +kernel
theorem dX7_out_42 : decode cX7_out 42 = .ok (.goto 150, 3) := by decide +kernel
theorem dX7_out_45 : decode cX7_out 45 = .ok (.iload_n 1, 1) := by decide +kernel
theorem dX7_out_46 : decode cX7_out 46 = .ok (.iconst 3, 1) := by decide +kernel
theorem dX7_out_47 : decode cX7_out 47 = .ok (.if_icmp .ne 19, 3) := by decide +kernel
theorem dX7_out_50 : decode cX7_out 50 = .ok (.aload_n 0, 1) := by decide +kernel
theorem dX7_out_51 : decode cX7_out 51 = .ok (.aload_n 0, 1) := by decide +kernel
theorem dX7_out_52 : decode cX7_out 52 = .ok (.getfield 115, 3) := by decide +kernel
theorem dX7_out_55 : decode cX7_out 55 = .ok (.ldc 118, 2) := by decide +kernel
theorem dX7_out_57 : decode cX7_out 57 = .ok (.iand, 1) := by decide +kernel
theorem dX7_out_58 : decode cX7_out 58 = .ok (.iload_n 2, 1) := by decide +kernel
theorem dX7_out_59 : decode cX7_out 59 = .ok (.ior, 1) := by decide +kernel
theorem dX7_out_60 : decode cX7_out 60 = .ok (.putfield 115, 3) := by decide +kernel
theorem dX7_out_63 : decode cX7_out 63 = .ok (.goto 129, 3) := by decide +kernel
theorem dX7_out_66 : decode cX7_out 66 = .ok (.iload_n 1, 1) := by decide +kernel
theorem dX7_out_67 : decode cX7_out 67 = .ok (.iconst 4, 1) := by decide +kernel
theorem dX7_out_68 : decode cX7_out 68 = .ok (.if_icmp .ne 23, 3) := by decide +kernel
theorem dX7_out_71 : decode cX7_out 71 = .ok (.aload_n 0, 1) := by decide +kernel
theorem dX7_out_72 : decode cX7_out 72 = .ok (.aload_n 0, 1) := by decide +kernel
theorem dX7_out_73 : decode cX7_out 73 = .ok (.getfield 115, 3) := by decide +kernel
theorem dX7_out_76 : decode cX7_out 76 = .ok (.sipush 255, 3) := by decide +kernel
theorem dX7_out_79 : decode cX7_out 79 = .ok (.iand, 1) := by decide +kernel
theorem dX7_out_80 : decode cX7_out 80 = .ok (.iload_n 2, 1) := by decide +kernel
theorem dX7_out_81 : decode cX7_out 81 = .ok (.bipush 8, 2) := by decide +kernel
theorem dX7_out_83 : decode cX7_out 83 = .ok (.ishl, 1) := by decide +kernel
theorem dX7_out_84 : decode cX7_out 84 = .ok (.ior, 1) := by decide +kernel
theorem dX7_out_85 : decode cX7_out 85 = .ok (.putfield 115, 3) := by decide +kernel
theorem dX7_out_88 : decode cX7_out 88 = .ok (.goto 104, 3) := by decide +kernel
theorem dX7_out_91 : decode cX7_out 91 = .ok (.iload_n 1, 1) := by decide +kernel
theorem dX7_out_92 : decode cX7_out 92 = .ok (.iconst 5, 1) := by decide +kernel
theorem dX7_out_93 : decode cX7_out 93 = .ok (.if_icmp .ne 11, 3) := by decide +kernel
theorem dX7_out_96 : decode cX7_out 96 = .ok (.aload_n 0, 1) := by decide +kernel
theorem dX7_out_97 : decode cX7_out 97 = .ok (.iload_n 2, 1) := by decide +kernel
theorem dX7_out_98 : decode cX7_out 98 = .ok (.putfield 119, 3) := by decide +kernel
theorem dX7_out_101 : decode cX7_out 101 = .ok (.goto 91, 3) := by decide +kernel
theorem dX7_out_104 : decode cX7_out 104 = .ok (.iload_n 1, 1) := by decide +kernel
theorem dX7_out_105 : decode cX7_out 105 = .ok (.bipush 6, 2) := by decide +kernel
theorem dX7_out_107 : decode cX7_out 107 = .ok (.if_icmp .ne 85, 3) := by decide +kernel
theorem dX7_out_110 : decode cX7_out 110 = .ok (.aload_n 0, 1) := by decide +kernel
theorem dX7_out_111 : decode cX7_out 111 = .ok (.getfield 106, 3) := by decide +kernel
theorem dX7_out_114 : decode cX7_out 114 = .ok (.iconst 1, 1) := by decide +kernel
theorem dX7_out_115 : decode cX7_out 115 = .ok (.iand, 1) := by decide +kernel
theorem dX7_out_116 : decode cX7_out 116 = .ok (.ifCond .ne 66, 3) := by decide +kernel
theorem dX7_out_119 : decode cX7_out 119 = .ok (.iload_n 2, 1) := by decide +kernel
theorem dX7_out_120 : decode cX7_out 120 = .ok (.iconst 1, 1) := by decide +kernel
theorem dX7_out_121 : decode cX7_out 121 = .ok (.if_icmp .eq 8, 3) := by decide +kernel
theorem dX7_out_124 : decode cX7_out 124 = .ok (.iload_n 2, 1) := by decide +kernel
theorem dX7_out_125 : decode cX7_out 125 = .ok (.iconst 2, 1) := by decide +kernel
theorem dX7_out_126 : decode cX7_out 126 = .ok (.if_icmp .ne 56, 3) := by decide +kernel
theorem dX7_out_129 : decode cX7_out 129 = .ok (.aload_n 0, 1) := by decide +kernel
theorem dX7_out_130 : decode cX7_out 130 = .ok (.getfield 112, 3) := by decide +kernel
theorem dX7_out_133 : decode cX7_out 133 = .ok (.bipush 64, 2) := by decide +kernel
theorem dX7_out_135 : decode cX7_out 135 = .ok (.if_icmp .ge 47, 3) := by decide +kernel
theorem dX7_out_138 : decode cX7_out 138 = .ok (.aload_n 0, 1) := by decide +kernel
theorem dX7_out_139 : decode cX7_out 139 = .ok (.aload_n 0, 1) := by decide +kernel
theorem dX7_out_140 : decode cX7_out 140 = .ok (.getfield 106, 3) := by decide +kernel
theorem dX7_out_143 : decode cX7_out 143 = .ok (.iconst 1, 1) := by decide +kernel
theorem dX7_out_144 : decode cX7_out 144 = .ok (.ior, 1) := by decide +kernel
theorem dX7_out_145 : decode cX7_out 145 = .ok (.putfield 106, 3) := by decide +kernel
theorem dX7_out_148 : decode cX7_out 148 = .ok (.aload_n 0, 1) := by decide +kernel
theorem dX7_out_149 : decode cX7_out 149 = .ok (.iload_n 2, 1) := by decide +kernel
theorem dX7_out_150 : decode cX7_out 150 = .ok (.putfield 122, 3) := by decide +kernel
theorem dX7_out_153 : decode cX7_out 153 = .ok (.aload_n 0, 1) := by decide +kernel
theorem dX7_out_154 : decode cX7_out 154 = .ok (.bipush 64, 2) := by decide +kernel
theorem dX7_out_156 : decode cX7_out 156 = .ok (.aload_n 0, 1) := by decide +kernel
theorem dX7_out_157 : decode cX7_out 157 = .ok (.getfield 112, 3) := by decide +kernel
theorem dX7_out_160 : decode cX7_out 160 = .ok (.imul, 1) := by decide +kernel
theorem dX7_out_161 : decode cX7_out 161 = .ok (.putfield 125, 3) := by decide +kernel
theorem dX7_out_164 : decode cX7_out 164 = .ok (.aload_n 0, 1) := by decide +kernel
theorem dX7_out_165 : decode cX7_out 165 = .ok (.iconst 0, 1) := by decide +kernel
theorem dX7_out_166 : decode cX7_out 166 = .ok (.putfield 128, 3) := by decide +kernel
theorem dX7_out_169 : decode cX7_out 169 = .ok (.aload_n 0, 1) := by decide +kernel
theorem dX7_out_170 : decode cX7_out 170 = .ok (.iconst 0, 1) := by decide +kernel
theorem dX7_out_171 : decode cX7_out 171 = .ok (.putfield 131, 3) := by decide +kernel
theorem dX7_out_174 : decode cX7_out 174 = .ok (.aload_n 0, 1) := by decide +kernel
theorem dX7_out_175 : decode cX7_out 175 = .ok (.iconst 1, 1) := by decide +kernel
theorem dX7_out_176 : decode cX7_out 176 = .ok (.putfield 134, 3) := by decide +kernel
theorem dX7_out_179 : decode cX7_out 179 = .ok (.goto 13, 3) := by decide +kernel
theorem dX7_out_182 : decode cX7_out 182 = .ok (.aload_n 0, 1) := by decide +kernel
theorem dX7_out_183 : decode cX7_out 183 = .ok (.aload_n 0, 1) := by decide +kernel
theorem dX7_out_184 : decode cX7_out 184 = .ok (.getfield 106, 3) := by decide +kernel
theorem dX7_out_187 : decode cX7_out 187 = .ok (.iconst 4, 1) := by decide +kernel
theorem dX7_out_188 : decode cX7_out 188 = .ok (.ior, 1) := by decide +kernel
theorem dX7_out_189 : decode cX7_out 189 = .ok (.putfield 106, 3) := by decide +kernel
theorem dX7_out_192 : decode cX7_out 192 = .ok (.return_, 1) := by decide +kernel
set_option maxRecDepth 20000 in
theorem ggX7_moveOne_X7_set : GoodIn wsX7_moveOne wsX7_set := goodIn_r _ [14, 15, 20, 21, 22, 23, 24, 25, 26, 27, 28, 29, 30, 31, 32, 33, 34, 35, 36, 37, 38, 39, 40, 41, 42, 43, 44, 45, 46, 47, 48, 49] (by decide +kernel) (by decide +kernel)
set_option maxRecDepth 20000 in
theorem gX7_moveOne_X7_set : GoodIn wsX7_moveOne (wsV RX7 43 RX7 yX7_set wsX7_set) := goodIn_app (goodIn_of _ (by decide +kernel)) ggX7_moveOne_X7_set
set_option maxRecDepth 20000 in
theorem ggX7_moveOne_X7_get : GoodIn wsX7_moveOne wsX7_get := goodIn_r _ [19, 15, 20, 21, 22, 23, 24, 25, 26, 27, 28, 29, 30, 31, 32, 33, 34, 35, 36, 37, 38, 39, 40, 41, 42, 43, 44, 45, 46, 47, 48, 49] (by decide +kernel) (by decide +kernel)
set_option maxRecDepth 20000 in
theorem gX7_moveOne_X7_get : GoodIn wsX7_moveOne (wsV RX7 39 RX7 yX7_get wsX7_get) := goodIn_app (goodIn_of _ (by decide +kernel)) ggX7_moveOne_X7_get
theorem dX7_moveOne_0 : decode cX7_moveOne 0 = .ok (.aload_n 0, 1) := by decide +kernel
theorem dX7_moveOne_1 : decode cX7_moveOne 1 = .ok (.getfield 122, 3) := by decide +kernel
theorem dX7_moveOne_4 : decode cX7_moveOne 4 = .ok (.iconst 1, 1) := by decide +kernel
theorem dX7_moveOne_5 : decode cX7_moveOne 5 = .ok (.if_icmp .ne 28, 3) := by decide +kernel
theorem dX7_moveOne_8 : decode cX7_moveOne 8 = .ok (.aload_n 0, 1) := by decide +kernel
theorem dX7_moveOne_9 : decode cX7_moveOne 9 = .ok (.aload_n 0, 1) := by decide +kernel
theorem dX7_moveOne_10 : decode cX7_moveOne 10 = .ok (.getfield 115, 3) := by decide +kernel
theorem dX7_moveOne_13 : decode cX7_moveOne 13 = .ok (.aload_n 0, 1) := by decide +kernel
theorem dX7_moveOne_14 : decode cX7_moveOne 14 = .ok (.getfield 13, 3) := by decide +kernel
theorem dX7_moveOne_17 : decode cX7_moveOne 17 = .ok (.aload_n 0, 1) := by decide +kernel
theorem dX7_moveOne_18 : decode cX7_moveOne 18 = .ok (.getfield 125, 3) := by decide +kernel
theorem dX7_moveOne_21 : decode cX7_moveOne 21 = .ok (.aload_n 0, 1) := by decide +kernel
theorem dX7_moveOne_22 : decode cX7_moveOne 22 = .ok (.getfield 128, 3) := by decide +kernel
theorem dX7_moveOne_25 : decode cX7_moveOne 25 = .ok (.iadd, 1) := by decide +kernel
theorem dX7_moveOne_26 : decode cX7_moveOne 26 = .ok (.iaload, 1) := by decide +kernel
theorem dX7_moveOne_27 : decode cX7_moveOne 27 = .ok (.invokevirtual 43, 3) := by decide +kernel
theorem dX7_moveOne_30 : decode cX7_moveOne 30 = .ok (.goto 25, 3) := by decide +kernel
theorem dX7_moveOne_33 : decode cX7_moveOne 33 = .ok (.aload_n 0, 1) := by decide +kernel
theorem dX7_moveOne_34 : decode cX7_moveOne 34 = .ok (.getfield 13, 3) := by decide +kernel
theorem dX7_moveOne_37 : decode cX7_moveOne 37 = .ok (.aload_n 0, 1) := by decide +kernel
theorem dX7_moveOne_38 : decode cX7_moveOne 38 = .ok (.getfield 125, 3) := by decide +kernel
theorem dX7_moveOne_41 : decode cX7_moveOne 41 = .ok (.aload_n 0, 1) := by decide +kernel
theorem dX7_moveOne_42 : decode cX7_moveOne 42 = .ok (.getfield 128, 3) := by decide +kernel
theorem dX7_moveOne_45 : decode cX7_moveOne 45 = .ok (.iadd, 1) := by decide +kernel
theorem dX7_moveOne_46 : decode cX7_moveOne 46 = .ok (.aload_n 0, 1) := by decide +kernel
theorem dX7_moveOne_47 : decode cX7_moveOne 47 = .ok (.aload_n 0, 1) := by decide +kernel
theorem dX7_moveOne_48 : decode cX7_moveOne 48 = .ok (.getfield 115, 3) := by decide +kernel
theorem dX7_moveOne_51 : decode cX7_moveOne 51 = .ok (.invokevirtual 39, 3) := by decide +kernel
theorem dX7_moveOne_54 : decode cX7_moveOne 54 = .ok (.iastore, 1) := by decide +kernel
theorem dX7_moveOne_55 : decode cX7_moveOne 55 = .ok (.aload_n 0, 1) := by decide +kernel
theorem dX7_moveOne_56 : decode cX7_moveOne 56 = .ok (.aload_n 0, 1) := by decide +kernel
theorem dX7_moveOne_57 : decode cX7_moveOne 57 = .ok (.getfield 115, 3) := by decide +kernel
theorem dX7_moveOne_60 : decode cX7_moveOne 60 = .ok (.iconst 1, 1) := by decide +kernel
theorem dX7_moveOne_61 : decode cX7_moveOne 61 = .ok (.iadd, 1) := by decide +kernel
theorem dX7_moveOne_62 : decode cX7_moveOne 62 = .ok (.ldc 50, 2) := by decide +kernel
theorem dX7_moveOne_64 : decode cX7_moveOne 64 = .ok (.iand, 1) := by decide +kernel
theorem dX7_moveOne_65 : decode cX7_moveOne 65 = .ok (.putfield 115, 3) := by decide +kernel
theorem dX7_moveOne_68 : decode cX7_moveOne 68 = .ok (.aload_n 0, 1) := by decide +kernel
theorem dX7_moveOne_69 : decode cX7_moveOne 69 = .ok (.dup, 1) := by decide +kernel
theorem dX7_moveOne_70 : decode cX7_moveOne 70 = .ok (.getfield 128, 3) := by decide +kernel
theorem dX7_moveOne_73 : decode cX7_moveOne 73 = .ok (.iconst 1, 1) := by decide +kernel
theorem dX7_moveOne_74 : decode cX7_moveOne 74 = .ok (.iadd, 1) := by decide +kernel
theorem dX7_moveOne_75 : decode cX7_moveOne 75 = .ok (.putfield 128, 3) := by decide +kernel
theorem dX7_moveOne_78 : decode cX7_moveOne 78 = .ok (.aload_n 0, 1) := by decide +kernel
theorem dX7_moveOne_79 : decode cX7_moveOne 79 = .ok (.getfield 128, 3) := by decide +kernel
theorem dX7_moveOne_82 : decode cX7_moveOne 82 = .ok (.bipush 64, 2) := by decide +kernel
theorem dX7_moveOne_84 : decode cX7_moveOne 84 = .ok (.if_icmp .ne 37, 3) := by decide +kernel
theorem dX7_moveOne_87 : decode cX7_moveOne 87 = .ok (.aload_n 0, 1) := by decide +kernel
theorem dX7_moveOne_88 : decode cX7_moveOne 88 = .ok (.aload_n 0, 1) := by decide +kernel
theorem dX7_moveOne_89 : decode cX7_moveOne 89 = .ok (.getfield 106, 3) := by decide +kernel
theorem dX7_moveOne_92 : decode cX7_moveOne 92 = .ok (.bipush 6, 2) := by decide +kernel
theorem dX7_moveOne_94 : decode cX7_moveOne 94 = .ok (.iand, 1) := by decide +kernel
theorem dX7_moveOne_95 : decode cX7_moveOne 95 = .ok (.iconst 2, 1) := by decide +kernel
theorem dX7_moveOne_96 : decode cX7_moveOne 96 = .ok (.ior, 1) := by decide +kernel
theorem dX7_moveOne_97 : decode cX7_moveOne 97 = .ok (.putfield 106, 3) := by decide +kernel
theorem dX7_moveOne_100 : decode cX7_moveOne 100 = .ok (.aload_n 0, 1) := by decide +kernel
theorem dX7_moveOne_101 : decode cX7_moveOne 101 = .ok (.getfield 119, 3) := by decide +kernel
theorem dX7_moveOne_104 : decode cX7_moveOne 104 = .ok (.bipush 8, 2) := by decide +kernel
theorem dX7_moveOne_106 : decode cX7_moveOne 106 = .ok (.iand, 1) := by decide +kernel
theorem dX7_moveOne_107 : decode cX7_moveOne 107 = .ok (.ifCond .eq 14, 3) := by decide +kernel
theorem dX7_moveOne_110 : decode cX7_moveOne 110 = .ok (.aload_n 0, 1) := by decide +kernel
theorem dX7_moveOne_111 : decode cX7_moveOne 111 = .ok (.aload_n 0, 1) := by decide +kernel
theorem dX7_moveOne_112 : decode cX7_moveOne 112 = .ok (.getfield 119, 3) := by decide +kernel
theorem dX7_moveOne_115 : decode cX7_moveOne 115 = .ok (.bipush 7, 2) := by decide +kernel
theorem dX7_moveOne_117 : decode cX7_moveOne 117 = .ok (.iand, 1) := by decide +kernel
theorem dX7_moveOne_118 : decode cX7_moveOne 118 = .ok (.putfield 19, 3) := by decide +kernel
theorem dX7_moveOne_121 : decode cX7_moveOne 121 = .ok (.return_, 1) := by decide +kernel
set_option maxRecDepth 20000 in
theorem ggX7_pass_X7_moveOne : GoodIn wsX7_pass wsX7_moveOne := goodIn_r _ [10, 11, 12, 13, 14, 15, 16, 3, 17, 18, 19, 20, 21, 9, 22, 23, 24, 25, 26, 27, 28, 29, 30, 31, 32, 33, 34, 35, 36, 37, 38, 39, 40, 41, 42, 43, 44, 45, 46, 47, 48, 49, 50, 51, 52, 53, 54, 55, 56, 57] (by decide +kernel) (by decide +kernel)
set_option maxRecDepth 20000 in
theorem gX7_pass_X7_moveOne : GoodIn wsX7_pass (wsV RX7 144 RX7 yX7_moveOne wsX7_moveOne) := goodIn_app (goodIn_of _ (by decide +kernel)) ggX7_pass_X7_moveOne
theorem dX7_pass_0 : decode cX7_pass 0 = .ok (.aload_n 0, 1) := by decide +kernel
theorem dX7_pass_1 : decode cX7_pass 1 = .ok (.aload_n 0, 1) := by decide +kernel
theorem dX7_pass_2 : decode cX7_pass 2 = .ok (.getfield 137, 3) := by decide +kernel
theorem dX7_pass_5 : decode cX7_pass 5 = .ok (.aload_n 0, 1) := by decide +kernel
theorem dX7_pass_6 : decode cX7_pass 6 = .ok (.getfield 141, 3) := by decide +kernel
theorem dX7_pass_9 : decode cX7_pass 9 = .ok (.i2l, 1) := by decide +kernel
theorem dX7_pass_10 : decode cX7_pass 10 = .ok (.ladd, 1) := by decide +kernel
theorem dX7_pass_11 : decode cX7_pass 11 = .ok (.putfield 137, 3) := by decide +kernel
theorem dX7_pass_14 : decode cX7_pass 14 = .ok (.aload_n 0, 1) := by decide +kernel
theorem dX7_pass_15 : decode cX7_pass 15 = .ok (.getfield 106, 3) := by decide +kernel
theorem dX7_pass_18 : decode cX7_pass 18 = .ok (.iconst 1, 1) := by decide +kernel
theorem dX7_pass_19 : decode cX7_pass 19 = .ok (.iand, 1) := by decide +kernel
theorem dX7_pass_20 : decode cX7_pass 20 = .ok (.iconst 1, 1) := by decide +kernel
theorem dX7_pass_21 : decode cX7_pass 21 = .ok (.if_icmp .ne 60, 3) := by decide +kernel
theorem dX7_pass_24 : decode cX7_pass 24 = .ok (.aload_n 0, 1) := by decide +kernel
theorem dX7_pass_25 : decode cX7_pass 25 = .ok (.getfield 134, 3) := by decide +kernel
theorem dX7_pass_28 : decode cX7_pass 28 = .ok (.ifCond .ne 53, 3) := by decide +kernel
theorem dX7_pass_31 : decode cX7_pass 31 = .ok (.aload_n 0, 1) := by decide +kernel
theorem dX7_pass_32 : decode cX7_pass 32 = .ok (.aload_n 0, 1) := by decide +kernel
theorem dX7_pass_33 : decode cX7_pass 33 = .ok (.getfield 131, 3) := by decide +kernel
theorem dX7_pass_36 : decode cX7_pass 36 = .ok (.aload_n 0, 1) := by decide +kernel
theorem dX7_pass_37 : decode cX7_pass 37 = .ok (.getfield 141, 3) := by decide +kernel
theorem dX7_pass_40 : decode cX7_pass 40 = .ok (.iadd, 1) := by decide +kernel
theorem dX7_pass_41 : decode cX7_pass 41 = .ok (.putfield 131, 3) := by decide +kernel
theorem dX7_pass_44 : decode cX7_pass 44 = .ok (.aload_n 0, 1) := by decide +kernel
theorem dX7_pass_45 : decode cX7_pass 45 = .ok (.getfield 106, 3) := by decide +kernel
theorem dX7_pass_48 : decode cX7_pass 48 = .ok (.iconst 1, 1) := by decide +kernel
theorem dX7_pass_49 : decode cX7_pass 49 = .ok (.iand, 1) := by decide +kernel
theorem dX7_pass_50 : decode cX7_pass 50 = .ok (.iconst 1, 1) := by decide +kernel
theorem dX7_pass_51 : decode cX7_pass 51 = .ok (.if_icmp .ne 30, 3) := by decide +kernel
theorem dX7_pass_54 : decode cX7_pass 54 = .ok (.aload_n 0, 1) := by decide +kernel
theorem dX7_pass_55 : decode cX7_pass 55 = .ok (.getfield 131, 3) := by decide +kernel
theorem dX7_pass_58 : decode cX7_pass 58 = .ok (.bipush 12, 2) := by decide +kernel
theorem dX7_pass_60 : decode cX7_pass 60 = .ok (.if_icmp .lt 21, 3) := by decide +kernel
theorem dX7_pass_63 : decode cX7_pass 63 = .ok (.aload_n 0, 1) := by decide +kernel
theorem dX7_pass_64 : decode cX7_pass 64 = .ok (.aload_n 0, 1) := by decide +kernel
theorem dX7_pass_65 : decode cX7_pass 65 = .ok (.getfield 131, 3) := by decide +kernel
theorem dX7_pass_68 : decode cX7_pass 68 = .ok (.bipush 12, 2) := by decide +kernel
theorem dX7_pass_70 : decode cX7_pass 70 = .ok (.isub, 1) := by decide +kernel
theorem dX7_pass_71 : decode cX7_pass 71 = .ok (.putfield 131, 3) := by decide +kernel
theorem dX7_pass_74 : decode cX7_pass 74 = .ok (.aload_n 0, 1) := by decide +kernel
theorem dX7_pass_75 : decode cX7_pass 75 = .ok (.invokevirtual 144, 3) := by decide +kernel
theorem dX7_pass_78 : decode cX7_pass 78 = .ok (.goto (-34), 3) := by decide +kernel
theorem dX7_pass_81 : decode cX7_pass 81 = .ok (.aload_n 0, 1) := by decide +kernel
theorem dX7_pass_82 : decode cX7_pass 82 = .ok (.iconst 0, 1) := by decide +kernel
theorem dX7_pass_83 : decode cX7_pass 83 = .ok (.putfield 134, 3) := by decide +kernel
theorem dX7_pass_86 : decode cX7_pass 86 = .ok (.return_, 1) := by decide +kernel
set_option maxRecDepth 20000 in
theorem ggX7_zero_X7_hl : GoodIn wsX7_zero wsX7_hl := goodIn_r _ [9, 10, 73, 74, 75, 76, 77, 78, 79, 80, 81, 82, 83, 84, 85, 86, 87, 88, 89, 90, 91, 92, 93, 94, 95, 96, 97, 98, 99, 100, 101, 102] (by decide +kernel) (by decide +kernel)
set_option maxRecDepth 20000 in
theorem gX7_zero_X7_hl : GoodIn wsX7_zero (wsV RX7 64 RX7 yX7_hl wsX7_hl) := goodIn_app (goodIn_of _ (by decide +kernel)) ggX7_zero_X7_hl
set_option maxRecDepth 20000 in
theorem ggX7_zero_X7_pair : GoodIn wsX7_zero wsX7_pair := goodIn_r _ [14, 15, 10, 73, 74, 75, 76, 77, 78, 79, 80, 81, 82, 83, 84, 85, 86, 87, 88, 89, 90, 91, 92, 93, 94, 95, 96, 97, 98, 99, 100, 101, 102] (by decide +kernel) (by decide +kernel)
set_option maxRecDepth 20000 in
theorem gX7_zero_X7_pair : GoodIn wsX7_zero (wsV RX7 147 RX7 yX7_pair wsX7_pair) := goodIn_app (goodIn_of _ (by decide +kernel)) ggX7_zero_X7_pair
set_option maxRecDepth 20000 in
theorem ggX7_zero_X7_setPair : GoodIn wsX7_zero wsX7_setPair := goodIn_r _ [19, 2, 15, 10, 73, 74, 75, 76, 77, 78, 79, 80, 81, 82, 83, 84, 85, 86, 87, 88, 89, 90, 91, 92, 93, 94, 95, 96, 97, 98, 99, 100, 101, 102] (by decide +kernel) (by decide +kernel)
set_option maxRecDepth 20000 in
theorem gX7_zero_X7_setPair : GoodIn wsX7_zero (wsV RX7 150 RX7 yX7_setPair wsX7_setPair) := goodIn_app (goodIn_of _ (by decide +kernel)) ggX7_zero_X7_setPair
set_option maxRecDepth 20000 in
theorem ggX7_zero_X7_nextWord : GoodIn wsX7_zero wsX7_nextWord := goodIn_r _ [23, 24, 25, 26, 8, 27, 28, 2, 29, 30, 31, 32, 33, 73, 74, 75, 76, 77, 78, 79, 80, 81, 82, 83, 84, 85, 86, 87, 88, 89, 90, 91, 92, 93, 94, 95, 96, 97, 98, 99, 100, 101, 102] (by decide +kernel) (by decide +kernel)
set_option maxRecDepth 20000 in
theorem gX7_zero_X7_nextWord : GoodIn wsX7_zero (wsV RX7 153 RX7 yX7_nextWord wsX7_nextWord) := goodIn_app (goodIn_of _ (by decide +kernel)) ggX7_zero_X7_nextWord
set_option maxRecDepth 20000 in
theorem ggX7_zero_X7_byAddress : GoodIn wsX7_zero wsX7_byAddress := goodIn_r _ [37, 1, 10, 11, 12, 13, 8, 14, 15, 20, 21, 22, 23, 24, 25, 26, 27, 28, 2, 29, 30, 31, 32, 33, 5, 6, 7, 9, 38, 39, 40, 41, 42, 43, 44, 45, 46, 47, 48, 49, 16, 17, 18, 19, 73, 74, 75, 76, 77, 78, 79, 80, 81, 82, 83, 84, 85, 86, 87, 88, 89, 90, 91, 92, 93, 94, 95, 96, 97, 98, 99, 100, 101, 102] (by decide +kernel) (by decide +kernel)
set_option maxRecDepth 20000 in
theorem gX7_zero_X7_byAddress : GoodIn wsX7_zero (wsV RX7 156 RX7 yX7_byAddress wsX7_byAddress) := goodIn_app (goodIn_of _ (by decide +kernel)) ggX7_zero_X7_byAddress
set_option maxRecDepth 20000 in
theorem ggX7_zero_X7_reg : GoodIn wsX7_zero wsX7_reg := goodIn_r _ [53, 10, 5, 6, 7, 8, 9, 29, 30, 31, 32, 33, 73, 74, 75, 76, 77, 78, 79, 80, 81, 82, 83, 84, 85, 86, 87, 88, 89, 90, 91, 92, 93, 94, 95, 96, 97, 98, 99, 100, 101, 102] (by decide +kernel) (by decide +kernel)
set_option maxRecDepth 20000 in
theorem gX7_zero_X7_reg : GoodIn wsX7_zero (wsV RX7 159 RX7 yX7_reg wsX7_reg) := goodIn_app (goodIn_of _ (by decide +kernel)) ggX7_zero_X7_reg
set_option maxRecDepth 20000 in
theorem ggX7_zero_X7_setReg : GoodIn wsX7_zero wsX7_setReg := goodIn_r _ [57, 10, 5, 6, 7, 8, 9, 42, 43, 44, 45, 33, 73, 74, 75, 76, 77, 78, 79, 80, 81, 82, 83, 84, 85, 86, 87, 88, 89, 90, 91, 92, 93, 94, 95, 96, 97, 98, 99, 100, 101, 102] (by decide +kernel) (by decide +kernel)
set_option maxRecDepth 20000 in
theorem gX7_zero_X7_setReg : GoodIn wsX7_zero (wsV RX7 162 RX7 yX7_setReg wsX7_setReg) := goodIn_app (goodIn_of _ (by decide +kernel)) ggX7_zero_X7_setReg
set_option maxRecDepth 20000 in
theorem ggX7_zero_X7_logic : GoodIn wsX7_zero wsX7_logic := goodIn_r _ [61, 62, 63, 64, 73, 74, 75, 76, 77, 78, 79, 80, 81, 82, 83, 84, 85, 86, 87, 88, 89, 90, 91, 92, 93, 94, 95, 96, 97, 98, 99, 100, 101, 102] (by decide +kernel) (by decide +kernel)
set_option maxRecDepth 20000 in
theorem gX7_zero_X7_logic : GoodIn wsX7_zero (wsV RX7 90 RX7 yX7_logic wsX7_logic) := goodIn_app (goodIn_of _ (by decide +kernel)) ggX7_zero_X7_logic
set_option maxRecDepth 20000 in
theorem ggX7_zero_X7_next : GoodIn wsX7_zero wsX7_next := goodIn_r _ [27, 28, 2, 29, 30, 31, 8, 32, 33, 73, 74, 75, 76, 77, 78, 79, 80, 81, 82, 83, 84, 85, 86, 87, 88, 89, 90, 91, 92, 93, 94, 95, 96, 97, 98, 99, 100, 101, 102] (by decide +kernel) (by decide +kernel)
set_option maxRecDepth 20000 in
theorem gX7_zero_X7_next : GoodIn wsX7_zero (wsV RX7 51 RX7 yX7_next wsX7_next) := goodIn_app (goodIn_of _ (by decide +kernel)) ggX7_zero_X7_next
set_option maxRecDepth 20000 in
theorem ggX7_zero_X7_turn : GoodIn wsX7_zero wsX7_turn := goodIn_r _ [68, 10, 3, 69, 70, 71, 8, 72, 4, 58, 59, 60, 61, 62, 63, 64, 73, 74, 75, 76, 77, 78, 79, 80, 81, 82, 83, 84, 85, 86, 87, 88, 89, 90, 91, 92, 93, 94, 95, 96, 97, 98, 99, 100, 101, 102] (by decide +kernel) (by decide +kernel)
set_option maxRecDepth 20000 in
theorem gX7_zero_X7_turn : GoodIn wsX7_zero (wsV RX7 165 RX7 yX7_turn wsX7_turn) := goodIn_app (goodIn_of _ (by decide +kernel)) ggX7_zero_X7_turn
theorem dX7_zero_0 : decode cX7_zero 0 = .ok (.iload_n 1, 1) := by decide +kernel
theorem dX7_zero_1 : decode cX7_zero 1 = .ok (.iconst 2, 1) := by decide +kernel
theorem dX7_zero_2 : decode cX7_zero 2 = .ok (.idiv, 1) := by decide +kernel
theorem dX7_zero_3 : decode cX7_zero 3 = .ok (.istore_n 3, 1) := by decide +kernel
theorem dX7_zero_4 : decode cX7_zero 4 = .ok (.iload_n 1, 1) := by decide +kernel
theorem dX7_zero_5 : decode cX7_zero 5 = .ok (.iconst 2, 1) := by decide +kernel
theorem dX7_zero_6 : decode cX7_zero 6 = .ok (.irem, 1) := by decide +kernel
theorem dX7_zero_7 : decode cX7_zero 7 = .ok (.iconst 1, 1) := by decide +kernel
theorem dX7_zero_8 : decode cX7_zero 8 = .ok (.if_icmp .ne 7, 3) := by decide +kernel
theorem dX7_zero_11 : decode cX7_zero 11 = .ok (.iconst 1, 1) := by decide +kernel
theorem dX7_zero_12 : decode cX7_zero 12 = .ok (.goto 4, 3) := by decide +kernel
theorem dX7_zero_15 : decode cX7_zero 15 = .ok (.iconst 0, 1) := by decide +kernel
theorem dX7_zero_16 : decode cX7_zero 16 = .ok (.istore 4, 2) := by decide +kernel
theorem dX7_zero_18 : decode cX7_zero 18 = .ok (.iload_n 2, 1) := by decide +kernel
theorem dX7_zero_19 : decode cX7_zero 19 = .ok (.tableswitch 282 0 6 #[41, 49, 110, 118, 153, 153, 253], 41) := by decide +kernel
theorem dX7_zero_60 : decode cX7_zero 60 = .ok (.aload_n 0, 1) := by decide +kernel
theorem dX7_zero_61 : decode cX7_zero 61 = .ok (.iconst 4, 1) := by decide +kernel
theorem dX7_zero_62 : decode cX7_zero 62 = .ok (.putfield 141, 3) := by decide +kernel
theorem dX7_zero_65 : decode cX7_zero 65 = .ok (.goto 246, 3) := by decide +kernel
theorem dX7_zero_68 : decode cX7_zero 68 = .ok (.aload_n 0, 1) := by decide +kernel
theorem dX7_zero_69 : decode cX7_zero 69 = .ok (.bipush 10, 2) := by decide +kernel
theorem dX7_zero_71 : decode cX7_zero 71 = .ok (.putfield 141, 3) := by decide +kernel
theorem dX7_zero_74 : decode cX7_zero 74 = .ok (.iload 4, 2) := by decide +kernel
theorem dX7_zero_76 : decode cX7_zero 76 = .ok (.ifCond .eq 41, 3) := by decide +kernel
theorem dX7_zero_79 : decode cX7_zero 79 = .ok (.aload_n 0, 1) := by decide +kernel
theorem dX7_zero_80 : decode cX7_zero 80 = .ok (.invokevirtual 64, 3) := by decide +kernel
theorem dX7_zero_83 : decode cX7_zero 83 = .ok (.aload_n 0, 1) := by decide +kernel
theorem dX7_zero_84 : decode cX7_zero 84 = .ok (.iload_n 3, 1) := by decide +kernel
theorem dX7_zero_85 : decode cX7_zero 85 = .ok (.invokevirtual 147, 3) := by decide +kernel
theorem dX7_zero_88 : decode cX7_zero 88 = .ok (.iadd, 1) := by decide +kernel
theorem dX7_zero_89 : decode cX7_zero 89 = .ok (.istore 5, 2) := by decide +kernel
theorem dX7_zero_91 : decode cX7_zero 91 = .ok (.aload_n 0, 1) := by decide +kernel
theorem dX7_zero_92 : decode cX7_zero 92 = .ok (.iload 5, 2) := by decide +kernel
theorem dX7_zero_94 : decode cX7_zero 94 = .ok (.ldc 50, 2) := by decide +kernel
theorem dX7_zero_96 : decode cX7_zero 96 = .ok (.if_icmp .le 7, 3) := by decide +kernel
theorem dX7_zero_99 : decode cX7_zero 99 = .ok (.iconst 1, 1) := by decide +kernel
theorem dX7_zero_100 : decode cX7_zero 100 = .ok (.goto 4, 3) := by decide +kernel
theorem dX7_zero_103 : decode cX7_zero 103 = .ok (.iconst 0, 1) := by decide +kernel
theorem dX7_zero_104 : decode cX7_zero 104 = .ok (.putfield 80, 3) := by decide +kernel
theorem dX7_zero_107 : decode cX7_zero 107 = .ok (.aload_n 0, 1) := by decide +kernel
theorem dX7_zero_108 : decode cX7_zero 108 = .ok (.iconst 2, 1) := by decide +kernel
theorem dX7_zero_109 : decode cX7_zero 109 = .ok (.iload 5, 2) := by decide +kernel
theorem dX7_zero_111 : decode cX7_zero 111 = .ok (.invokevirtual 150, 3) := by decide +kernel
theorem dX7_zero_114 : decode cX7_zero 114 = .ok (.goto 197, 3) := by decide +kernel
theorem dX7_zero_117 : decode cX7_zero 117 = .ok (.aload_n 0, 1) := by decide +kernel
theorem dX7_zero_118 : decode cX7_zero 118 = .ok (.iload_n 3, 1) := by decide +kernel
theorem dX7_zero_119 : decode cX7_zero 119 = .ok (.aload_n 0, 1) := by decide +kernel
theorem dX7_zero_120 : decode cX7_zero 120 = .ok (.invokevirtual 153, 3) := by decide +kernel
theorem dX7_zero_123 : decode cX7_zero 123 = .ok (.invokevirtual 150, 3) := by decide +kernel
theorem dX7_zero_126 : decode cX7_zero 126 = .ok (.goto 185, 3) := by decide +kernel
theorem dX7_zero_129 : decode cX7_zero 129 = .ok (.aload_n 0, 1) := by decide +kernel
theorem dX7_zero_130 : decode cX7_zero 130 = .ok (.iload_n 1, 1) := by decide +kernel
theorem dX7_zero_131 : decode cX7_zero 131 = .ok (.invokevirtual 156, 3) := by decide +kernel
theorem dX7_zero_134 : decode cX7_zero 134 = .ok (.goto 177, 3) := by decide +kernel
theorem dX7_zero_137 : decode cX7_zero 137 = .ok (.aload_n 0, 1) := by decide +kernel
theorem dX7_zero_138 : decode cX7_zero 138 = .ok (.iconst 5, 1) := by decide +kernel
theorem dX7_zero_139 : decode cX7_zero 139 = .ok (.putfield 141, 3) := by decide +kernel
theorem dX7_zero_142 : decode cX7_zero 142 = .ok (.aload_n 0, 1) := by decide +kernel
theorem dX7_zero_143 : decode cX7_zero 143 = .ok (.iload_n 3, 1) := by decide +kernel
theorem dX7_zero_144 : decode cX7_zero 144 = .ok (.iload 4, 2) := by decide +kernel
theorem dX7_zero_146 : decode cX7_zero 146 = .ok (.ifCond .eq 13, 3) := by decide +kernel
theorem dX7_zero_149 : decode cX7_zero 149 = .ok (.aload_n 0, 1) := by decide +kernel
theorem dX7_zero_150 : decode cX7_zero 150 = .ok (.iload_n 3, 1) := by decide +kernel
theorem dX7_zero_151 : decode cX7_zero 151 = .ok (.invokevirtual 147, 3) := by decide +kernel
theorem dX7_zero_154 : decode cX7_zero 154 = .ok (.iconst 1, 1) := by decide +kernel
theorem dX7_zero_155 : decode cX7_zero 155 = .ok (.isub, 1) := by decide +kernel
theorem dX7_zero_156 : decode cX7_zero 156 = .ok (.goto 10, 3) := by decide +kernel
theorem dX7_zero_159 : decode cX7_zero 159 = .ok (.aload_n 0, 1) := by decide +kernel
theorem dX7_zero_160 : decode cX7_zero 160 = .ok (.iload_n 3, 1) := by decide +kernel
theorem dX7_zero_161 : decode cX7_zero 161 = .ok (.invokevirtual 147, 3) := by decide +kernel
theorem dX7_zero_164 : decode cX7_zero 164 = .ok (.iconst 1, 1) := by decide +kernel
theorem dX7_zero_165 : decode cX7_zero 165 = .ok (.iadd, 1) := by decide +kernel
theorem dX7_zero_166 : decode cX7_zero 166 = .ok (.invokevirtual 150, 3) := by decide +kernel
theorem dX7_zero_169 : decode cX7_zero 169 = .ok (.goto 142, 3) := by decide +kernel
theorem dX7_zero_172 : decode cX7_zero 172 = .ok (.aload_n 0, 1) := by decide +kernel
theorem dX7_zero_173 : decode cX7_zero 173 = .ok (.iload_n 1, 1) := by decide +kernel
theorem dX7_zero_174 : decode cX7_zero 174 = .ok (.bipush 6, 2) := by decide +kernel
theorem dX7_zero_176 : decode cX7_zero 176 = .ok (.if_icmp .ne 8, 3) := by decide +kernel
theorem dX7_zero_179 : decode cX7_zero 179 = .ok (.bipush 10, 2) := by decide +kernel
theorem dX7_zero_181 : decode cX7_zero 181 = .ok (.goto 4, 3) := by decide +kernel
theorem dX7_zero_184 : decode cX7_zero 184 = .ok (.iconst 5, 1) := by decide +kernel
theorem dX7_zero_185 : decode cX7_zero 185 = .ok (.putfield 141, 3) := by decide +kernel
theorem dX7_zero_188 : decode cX7_zero 188 = .ok (.iload_n 2, 1) := by decide +kernel
theorem dX7_zero_189 : decode cX7_zero 189 = .ok (.iconst 4, 1) := by decide +kernel
theorem dX7_zero_190 : decode cX7_zero 190 = .ok (.if_icmp .ne 13, 3) := by decide +kernel
theorem dX7_zero_193 : decode cX7_zero 193 = .ok (.aload_n 0, 1) := by decide +kernel
theorem dX7_zero_194 : decode cX7_zero 194 = .ok (.iload_n 1, 1) := by decide +kernel
theorem dX7_zero_195 : decode cX7_zero 195 = .ok (.invokevirtual 159, 3) := by decide +kernel
theorem dX7_zero_198 : decode cX7_zero 198 = .ok (.iconst 1, 1) := by decide +kernel
theorem dX7_zero_199 : decode cX7_zero 199 = .ok (.iadd, 1) := by decide +kernel
theorem dX7_zero_200 : decode cX7_zero 200 = .ok (.goto 10, 3) := by decide +kernel
theorem dX7_zero_203 : decode cX7_zero 203 = .ok (.aload_n 0, 1) := by decide +kernel
theorem dX7_zero_204 : decode cX7_zero 204 = .ok (.iload_n 1, 1) := by decide +kernel
theorem dX7_zero_205 : decode cX7_zero 205 = .ok (.invokevirtual 159, 3) := by decide +kernel
theorem dX7_zero_208 : decode cX7_zero 208 = .ok (.iconst 1, 1) := by decide +kernel
theorem dX7_zero_209 : decode cX7_zero 209 = .ok (.isub, 1) := by decide +kernel
theorem dX7_zero_210 : decode cX7_zero 210 = .ok (.sipush 255, 3) := by decide +kernel
theorem dX7_zero_213 : decode cX7_zero 213 = .ok (.iand, 1) := by decide +kernel
theorem dX7_zero_214 : decode cX7_zero 214 = .ok (.istore 5, 2) := by decide +kernel
theorem dX7_zero_216 : decode cX7_zero 216 = .ok (.aload_n 0, 1) := by decide +kernel
theorem dX7_zero_217 : decode cX7_zero 217 = .ok (.iload_n 2, 1) := by decide +kernel
theorem dX7_zero_218 : decode cX7_zero 218 = .ok (.iconst 4, 1) := by decide +kernel
theorem dX7_zero_219 : decode cX7_zero 219 = .ok (.if_icmp .ne 19, 3) := by decide +kernel
theorem dX7_zero_222 : decode cX7_zero 222 = .ok (.iload 5, 2) := by decide +kernel
theorem dX7_zero_224 : decode cX7_zero 224 = .ok (.bipush 15, 2) := by decide +kernel
theorem dX7_zero_226 : decode cX7_zero 226 = .ok (.iand, 1) := by decide +kernel
theorem dX7_zero_227 : decode cX7_zero 227 = .ok (.ifCond .ne 7, 3) := by decide +kernel
theorem dX7_zero_230 : decode cX7_zero 230 = .ok (.iconst 1, 1) := by decide +kernel
theorem dX7_zero_231 : decode cX7_zero 231 = .ok (.goto 22, 3) := by decide +kernel
theorem dX7_zero_234 : decode cX7_zero 234 = .ok (.iconst 0, 1) := by decide +kernel
theorem dX7_zero_235 : decode cX7_zero 235 = .ok (.goto 18, 3) := by decide +kernel
theorem dX7_zero_238 : decode cX7_zero 238 = .ok (.iload 5, 2) := by decide +kernel
theorem dX7_zero_240 : decode cX7_zero 240 = .ok (.bipush 15, 2) := by decide +kernel
theorem dX7_zero_242 : decode cX7_zero 242 = .ok (.iand, 1) := by decide +kernel
theorem dX7_zero_243 : decode cX7_zero 243 = .ok (.bipush 15, 2) := by decide +kernel
theorem dX7_zero_245 : decode cX7_zero 245 = .ok (.if_icmp .eq 7, 3) := by decide +kernel
theorem dX7_zero_248 : decode cX7_zero 248 = .ok (.iconst 1, 1) := by decide +kernel
theorem dX7_zero_249 : decode cX7_zero 249 = .ok (.goto 4, 3) := by decide +kernel
theorem dX7_zero_252 : decode cX7_zero 252 = .ok (.iconst 0, 1) := by decide +kernel
theorem dX7_zero_253 : decode cX7_zero 253 = .ok (.putfield 74, 3) := by decide +kernel
theorem dX7_zero_256 : decode cX7_zero 256 = .ok (.aload_n 0, 1) := by decide +kernel
theorem dX7_zero_257 : decode cX7_zero 257 = .ok (.iload_n 1, 1) := by decide +kernel
theorem dX7_zero_258 : decode cX7_zero 258 = .ok (.iload 5, 2) := by decide +kernel
theorem dX7_zero_260 : decode cX7_zero 260 = .ok (.invokevirtual 162, 3) := by decide +kernel
theorem dX7_zero_263 : decode cX7_zero 263 = .ok (.aload_n 0, 1) := by decide +kernel
theorem dX7_zero_264 : decode cX7_zero 264 = .ok (.iload 5, 2) := by decide +kernel
theorem dX7_zero_266 : decode cX7_zero 266 = .ok (.invokevirtual 90, 3) := by decide +kernel
theorem dX7_zero_269 : decode cX7_zero 269 = .ok (.goto 42, 3) := by decide +kernel
theorem dX7_zero_272 : decode cX7_zero 272 = .ok (.aload_n 0, 1) := by decide +kernel
theorem dX7_zero_273 : decode cX7_zero 273 = .ok (.iload_n 1, 1) := by decide +kernel
theorem dX7_zero_274 : decode cX7_zero 274 = .ok (.bipush 6, 2) := by decide +kernel
theorem dX7_zero_276 : decode cX7_zero 276 = .ok (.if_icmp .ne 8, 3) := by decide +kernel
