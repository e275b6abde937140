theorem dX5_feed_54 : decode cX5_feed 54 = .ok (.bipush 8, 2) := by decide +kernel
theorem dX5_feed_56 : decode cX5_feed 56 = .ok (.iload_n 3, 1) := by decide +kernel
theorem dX5_feed_57 : decode cX5_feed 57 = .ok (.imul, 1) := by decide +kernel
theorem dX5_feed_58 : decode cX5_feed 58 = .ok (.ishr, 1) := by decide +kernel
theorem dX5_feed_59 : decode cX5_feed 59 = .ok (.sipush 255, 3) := by decide +kernel
theorem dX5_feed_62 : decode cX5_feed 62 = .ok (.iand, 1) := by decide +kernel
theorem dX5_feed_63 : decode cX5_feed 63 = .ok (.iastore, 1) := by decide +kernel
theorem dX5_feed_64 : decode cX5_feed 64 = .ok (.aload_n 0, 1) := by decide +kernel
theorem dX5_feed_65 : decode cX5_feed 65 = .ok (.dup, 1) := by decide +kernel
theorem dX5_feed_66 : decode cX5_feed 66 = .ok (.getfield 212, 3) := by decide +kernel
theorem dX5_feed_69 : decode cX5_feed 69 = .ok (.iconst 1, 1) := by decide +kernel
theorem dX5_feed_70 : decode cX5_feed 70 = .ok (.iadd, 1) := by decide +kernel
theorem dX5_feed_71 : decode cX5_feed 71 = .ok (.putfield 212, 3) := by decide +kernel
theorem dX5_feed_74 : decode cX5_feed 74 = .ok (.iinc 3 (-1), 3) := by decide +kernel
theorem dX5_feed_77 : decode cX5_feed 77 = .ok (.goto (-36), 3) := by decide +kernel
theorem dX5_feed_80 : decode cX5_feed 80 = .ok (.aload_n 0, 1) := by decide +kernel
theorem dX5_feed_81 : decode cX5_feed 81 = .ok (.getfield 212, 3) := by decide +kernel
theorem dX5_feed_84 : decode cX5_feed 84 = .ok (.ireturn, 1) := by decide +kernel
theorem dX5_wipe_0 : decode cX5_wipe 0 = .ok (.aload_n 0, 1) := by decide +kernel
theorem dX5_wipe_1 : decode cX5_wipe 1 = .ok (.getfield 212, 3) := by decide +kernel
theorem dX5_wipe_4 : decode cX5_wipe 4 = .ok (.istore_n 1, 1) := by decide +kernel
theorem dX5_wipe_5 : decode cX5_wipe 5 = .ok (.aload_n 0, 1) := by decide +kernel
theorem dX5_wipe_6 : decode cX5_wipe 6 = .ok (.iconst 0, 1) := by decide +kernel
theorem dX5_wipe_7 : decode cX5_wipe 7 = .ok (.putfield 212, 3) := by decide +kernel
theorem dX5_wipe_10 : decode cX5_wipe 10 = .ok (.iload_n 1, 1) := by decide +kernel
theorem dX5_wipe_11 : decode cX5_wipe 11 = .ok (.ireturn, 1) := by decide +kernel
theorem dX5_isLetter_0 : decode cX5_isLetter 0 = .ok (.iload_n 0, 1) := by decide +kernel
theorem dX5_isLetter_1 : decode cX5_isLetter 1 = .ok (.bipush 97, 2) := by decide +kernel
theorem dX5_isLetter_3 : decode cX5_isLetter 3 = .ok (.if_icmp .lt 13, 3) := by decide +kernel
theorem dX5_isLetter_6 : decode cX5_isLetter 6 = .ok (.iload_n 0, 1) := by decide +kernel
theorem dX5_isLetter_7 : decode cX5_isLetter 7 = .ok (.bipush 122, 2) := by decide +kernel
theorem dX5_isLetter_9 : decode cX5_isLetter 9 = .ok (.if_icmp .gt 7, 3) := by decide +kernel
theorem dX5_isLetter_12 : decode cX5_isLetter 12 = .ok (.iconst 1, 1) := by decide +kernel
theorem dX5_isLetter_13 : decode cX5_isLetter 13 = .ok (.goto 4, 3) := by decide +kernel
theorem dX5_isLetter_16 : decode cX5_isLetter 16 = .ok (.iconst 0, 1) := by decide +kernel
theorem dX5_isLetter_17 : decode cX5_isLetter 17 = .ok (.ireturn, 1) := by decide +kernel
theorem dX5_isDigit_0 : decode cX5_isDigit 0 = .ok (.iload_n 0, 1) := by decide +kernel
theorem dX5_isDigit_1 : decode cX5_isDigit 1 = .ok (.bipush 48, 2) := by decide +kernel
theorem dX5_isDigit_3 : decode cX5_isDigit 3 = .ok (.if_icmp .lt 13, 3) := by decide +kernel
theorem dX5_isDigit_6 : decode cX5_isDigit 6 = .ok (.iload_n 0, 1) := by decide +kernel
theorem dX5_isDigit_7 : decode cX5_isDigit 7 = .ok (.bipush 57, 2) := by decide +kernel
theorem dX5_isDigit_9 : decode cX5_isDigit 9 = .ok (.if_icmp .gt 7, 3) := by decide +kernel
theorem dX5_isDigit_12 : decode cX5_isDigit 12 = .ok (.iconst 1, 1) := by decide +kernel
theorem dX5_isDigit_13 : decode cX5_isDigit 13 = .ok (.goto 4, 3) := by decide +kernel
theorem dX5_isDigit_16 : decode cX5_isDigit 16 = .ok (.iconst 0, 1) := by decide +kernel
theorem dX5_isDigit_17 : decode cX5_isDigit 17 = .ok (.ireturn, 1) := by decide +kernel
theorem dX5_byteAt_0 : decode cX5_byteAt 0 = .ok (.iload_n 1, 1) := by decide +kernel
theorem dX5_byteAt_1 : decode cX5_byteAt 1 = .ok (.aload_n 0, 1) := by decide +kernel
theorem dX5_byteAt_2 : decode cX5_byteAt 2 = .ok (.getfield 212, 3) := by decide +kernel
theorem dX5_byteAt_5 : decode cX5_byteAt 5 = .ok (.if_icmp .ge 12, 3) := by decide +kernel
theorem dX5_byteAt_8 : decode cX5_byteAt 8 = .ok (.aload_n 0, 1) := by decide +kernel
theorem dX5_byteAt_9 : decode cX5_byteAt 9 = .ok (.getfield 25, 3) := by decide +kernel
theorem dX5_byteAt_12 : decode cX5_byteAt 12 = .ok (.iload_n 1, 1) := by decide +kernel
theorem dX5_byteAt_13 : decode cX5_byteAt 13 = .ok (.iaload, 1) := by decide +kernel
theorem dX5_byteAt_14 : decode cX5_byteAt 14 = .ok (.goto 4, 3) := by decide +kernel
theorem dX5_byteAt_17 : decode cX5_byteAt 17 = .ok (.iconst (-1), 1) := by decide +kernel
theorem dX5_byteAt_18 : decode cX5_byteAt 18 = .ok (.ireturn, 1) := by decide +kernel
theorem dX5_nextToken_0 : decode cX5_nextToken 0 = .ok (.aload_n 0, 1) := by decide +kernel
theorem dX5_nextToken_1 : decode cX5_nextToken 1 = .ok (.aload_n 0, 1) := by decide +kernel
theorem dX5_nextToken_2 : decode cX5_nextToken 2 = .ok (.getfield 216, 3) := by decide +kernel
theorem dX5_nextToken_5 : decode cX5_nextToken 5 = .ok (.putfield 219, 3) := by decide +kernel
theorem dX5_nextToken_8 : decode cX5_nextToken 8 = .ok (.aload_n 0, 1) := by decide +kernel
theorem dX5_nextToken_9 : decode cX5_nextToken 9 = .ok (.aload_n 0, 1) := by decide +kernel
theorem dX5_nextToken_10 : decode cX5_nextToken 10 = .ok (.getfield 219, 3) := by decide +kernel
theorem dX5_nextToken_13 : decode cX5_nextToken 13 = .ok (.invokevirtual 222, 3) := by decide +kernel
theorem dX5_nextToken_16 : decode cX5_nextToken 16 = .ok (.bipush 32, 2) := by decide +kernel
theorem dX5_nextToken_18 : decode cX5_nextToken 18 = .ok (.if_icmp .ne 16, 3) := by decide +kernel
theorem dX5_nextToken_21 : decode cX5_nextToken 21 = .ok (.aload_n 0, 1) := by decide +kernel
theorem dX5_nextToken_22 : decode cX5_nextToken 22 = .ok (.dup, 1) := by decide +kernel
theorem dX5_nextToken_23 : decode cX5_nextToken 23 = .ok (.getfield 219, 3) := by decide +kernel
theorem dX5_nextToken_26 : decode cX5_nextToken 26 = .ok (.iconst 1, 1) := by decide +kernel
theorem dX5_nextToken_27 : decode cX5_nextToken 27 = .ok (.iadd, 1) := by decide +kernel
theorem dX5_nextToken_28 : decode cX5_nextToken 28 = .ok (.putfield 219, 3) := by decide +kernel
theorem dX5_nextToken_31 : decode cX5_nextToken 31 = .ok (.goto (-23), 3) := by decide +kernel
theorem dX5_nextToken_34 : decode cX5_nextToken 34 = .ok (.aload_n 0, 1) := by decide +kernel
theorem dX5_nextToken_35 : decode cX5_nextToken 35 = .ok (.aload_n 0, 1) := by decide +kernel
theorem dX5_nextToken_36 : decode cX5_nextToken 36 = .ok (.getfield 219, 3) := by decide +kernel
theorem dX5_nextToken_39 : decode cX5_nextToken 39 = .ok (.putfield 216, 3) := by decide +kernel
theorem dX5_nextToken_42 : decode cX5_nextToken 42 = .ok (.aload_n 0, 1) := by decide +kernel
theorem dX5_nextToken_43 : decode cX5_nextToken 43 = .ok (.aload_n 0, 1) := by decide +kernel
theorem dX5_nextToken_44 : decode cX5_nextToken 44 = .ok (.getfield 219, 3) := by decide +kernel
theorem dX5_nextToken_47 : decode cX5_nextToken 47 = .ok (.invokevirtual 222, 3) := by decide +kernel
theorem dX5_nextToken_50 : decode cX5_nextToken 50 = .ok (.istore_n 1, 1) := by decide +kernel
theorem dX5_nextToken_51 : decode cX5_nextToken 51 = .ok (.aload_n 0, 1) := by decide +kernel
theorem dX5_nextToken_52 : decode cX5_nextToken 52 = .ok (.iload_n 1, 1) := by decide +kernel
theorem dX5_nextToken_53 : decode cX5_nextToken 53 = .ok (.ifCond .ge 7, 3) := by decide +kernel
theorem dX5_nextToken_56 : decode cX5_nextToken 56 = .ok (.iconst 0, 1) := by decide +kernel
theorem dX5_nextToken_57 : decode cX5_nextToken 57 = .ok (.goto 36, 3) := by decide +kernel
theorem dX5_nextToken_60 : decode cX5_nextToken 60 = .ok (.iload_n 1, 1) := by decide +kernel
theorem dX5_nextToken_61 : decode cX5_nextToken 61 = .ok (.invokestatic 225, 3) := by decide +kernel
theorem dX5_nextToken_64 : decode cX5_nextToken 64 = .ok (.ifCond .eq 7, 3) := by decide +kernel
theorem dX5_nextToken_67 : decode cX5_nextToken 67 = .ok (.iconst 1, 1) := by decide +kernel
theorem dX5_nextToken_68 : decode cX5_nextToken 68 = .ok (.goto 25, 3) := by decide +kernel
theorem dX5_nextToken_71 : decode cX5_nextToken 71 = .ok (.iload_n 1, 1) := by decide +kernel
theorem dX5_nextToken_72 : decode cX5_nextToken 72 = .ok (.invokestatic 228, 3) := by decide +kernel
theorem dX5_nextToken_75 : decode cX5_nextToken 75 = .ok (.ifCond .eq 7, 3) := by decide +kernel
theorem dX5_nextToken_78 : decode cX5_nextToken 78 = .ok (.iconst 2, 1) := by decide +kernel
theorem dX5_nextToken_79 : decode cX5_nextToken 79 = .ok (.goto 14, 3) := by decide +kernel
theorem dX5_nextToken_82 : decode cX5_nextToken 82 = .ok (.iload_n 1, 1) := by decide +kernel
theorem dX5_nextToken_83 : decode cX5_nextToken 83 = .ok (.bipush 59, 2) := by decide +kernel
theorem dX5_nextToken_85 : decode cX5_nextToken 85 = .ok (.if_icmp .ne 7, 3) := by decide +kernel
theorem dX5_nextToken_88 : decode cX5_nextToken 88 = .ok (.iconst 3, 1) := by decide +kernel
theorem dX5_nextToken_89 : decode cX5_nextToken 89 = .ok (.goto 4, 3) := by decide +kernel
theorem dX5_nextToken_92 : decode cX5_nextToken 92 = .ok (.iconst 4, 1) := by decide +kernel
theorem dX5_nextToken_93 : decode cX5_nextToken 93 = .ok (.putfield 231, 3) := by decide +kernel
theorem dX5_nextToken_96 : decode cX5_nextToken 96 = .ok (.aload_n 0, 1) := by decide +kernel
theorem dX5_nextToken_97 : decode cX5_nextToken 97 = .ok (.iconst 0, 1) := by decide +kernel
theorem dX5_nextToken_98 : decode cX5_nextToken 98 = .ok (.putfield 234, 3) := by decide +kernel
theorem dX5_nextToken_101 : decode cX5_nextToken 101 = .ok (.aload_n 0, 1) := by decide +kernel
theorem dX5_nextToken_102 : decode cX5_nextToken 102 = .ok (.getfield 231, 3) := by decide +kernel
theorem dX5_nextToken_105 : decode cX5_nextToken 105 = .ok (.iconst 1, 1) := by decide +kernel
theorem dX5_nextToken_106 : decode cX5_nextToken 106 = .ok (.if_icmp .ne 30, 3) := by decide +kernel
theorem dX5_nextToken_109 : decode cX5_nextToken 109 = .ok (.aload_n 0, 1) := by decide +kernel
theorem dX5_nextToken_110 : decode cX5_nextToken 110 = .ok (.aload_n 0, 1) := by decide +kernel
theorem dX5_nextToken_111 : decode cX5_nextToken 111 = .ok (.getfield 216, 3) := by decide +kernel
theorem dX5_nextToken_114 : decode cX5_nextToken 114 = .ok (.invokevirtual 222, 3) := by decide +kernel
theorem dX5_nextToken_117 : decode cX5_nextToken 117 = .ok (.invokestatic 225, 3) := by decide +kernel
theorem dX5_nextToken_120 : decode cX5_nextToken 120 = .ok (.ifCond .eq 16, 3) := by decide +kernel
theorem dX5_nextToken_123 : decode cX5_nextToken 123 = .ok (.aload_n 0, 1) := by decide +kernel
theorem dX5_nextToken_124 : decode cX5_nextToken 124 = .ok (.dup, 1) := by decide +kernel
theorem dX5_nextToken_125 : decode cX5_nextToken 125 = .ok (.getfield 216, 3) := by decide +kernel
theorem dX5_nextToken_128 : decode cX5_nextToken 128 = .ok (.iconst 1, 1) := by decide +kernel
theorem dX5_nextToken_129 : decode cX5_nextToken 129 = .ok (.iadd, 1) := by decide +kernel
theorem dX5_nextToken_130 : decode cX5_nextToken 130 = .ok (.putfield 216, 3) := by decide +kernel
theorem dX5_nextToken_133 : decode cX5_nextToken 133 = .ok (.goto (-32), 3) := by decide +kernel
theorem dX5_nextToken_136 : decode cX5_nextToken 136 = .ok (.aload_n 0, 1) := by decide +kernel
theorem dX5_nextToken_137 : decode cX5_nextToken 137 = .ok (.getfield 231, 3) := by decide +kernel
theorem dX5_nextToken_140 : decode cX5_nextToken 140 = .ok (.iconst 2, 1) := by decide +kernel
theorem dX5_nextToken_141 : decode cX5_nextToken 141 = .ok (.if_icmp .ne 70, 3) := by decide +kernel
theorem dX5_nextToken_144 : decode cX5_nextToken 144 = .ok (.aload_n 0, 1) := by decide +kernel
theorem dX5_nextToken_145 : decode cX5_nextToken 145 = .ok (.aload_n 0, 1) := by decide +kernel
theorem dX5_nextToken_146 : decode cX5_nextToken 146 = .ok (.getfield 216, 3) := by decide +kernel
theorem dX5_nextToken_149 : decode cX5_nextToken 149 = .ok (.invokevirtual 222, 3) := by decide +kernel
theorem dX5_nextToken_152 : decode cX5_nextToken 152 = .ok (.invokestatic 228, 3) := by decide +kernel
theorem dX5_nextToken_155 : decode cX5_nextToken 155 = .ok (.ifCond .eq 56, 3) := by decide +kernel
theorem dX5_nextToken_158 : decode cX5_nextToken 158 = .ok (.aload_n 0, 1) := by decide +kernel
theorem dX5_nextToken_159 : decode cX5_nextToken 159 = .ok (.aload_n 0, 1) := by decide +kernel
theorem dX5_nextToken_160 : decode cX5_nextToken 160 = .ok (.getfield 234, 3) := by decide +kernel
theorem dX5_nextToken_163 : decode cX5_nextToken 163 = .ok (.sipush 999, 3) := by decide +kernel
theorem dX5_nextToken_166 : decode cX5_nextToken 166 = .ok (.if_icmp .le 10, 3) := by decide +kernel
theorem dX5_nextToken_169 : decode cX5_nextToken 169 = .ok (.aload_n 0, 1) := by decide +kernel
theorem dX5_nextToken_170 : decode cX5_nextToken 170 = .ok (.getfield 234, 3) := by decide +kernel
theorem dX5_nextToken_173 : decode cX5_nextToken 173 = .ok (.goto 22, 3) := by decide +kernel
theorem dX5_nextToken_176 : decode cX5_nextToken 176 = .ok (.bipush 10, 2) := by decide +kernel
theorem dX5_nextToken_178 : decode cX5_nextToken 178 = .ok (.aload_n 0, 1) := by decide +kernel
theorem dX5_nextToken_179 : decode cX5_nextToken 179 = .ok (.getfield 234, 3) := by decide +kernel
theorem dX5_nextToken_182 : decode cX5_nextToken 182 = .ok (.imul, 1) := by decide +kernel
theorem dX5_nextToken_183 : decode cX5_nextToken 183 = .ok (.aload_n 0, 1) := by decide +kernel
theorem dX5_nextToken_184 : decode cX5_nextToken 184 = .ok (.aload_n 0, 1) := by decide +kernel
theorem dX5_nextToken_185 : decode cX5_nextToken 185 = .ok (.getfield 216, 3) := by decide +kernel
theorem dX5_nextToken_188 : decode cX5_nextToken 188 = .ok (.invokevirtual 222, 3) := by decide +kernel
theorem dX5_nextToken_191 : decode cX5_nextToken 191 = .ok (.iadd, 1) := by decide +kernel
theorem dX5_nextToken_192 : decode cX5_nextToken 192 = .ok (.bipush 48, 2) := by decide +kernel
theorem dX5_nextToken_194 : decode cX5_nextToken 194 = .ok (.isub, 1) := by decide +kernel
theorem dX5_nextToken_195 : decode cX5_nextToken 195 = .ok (.putfield 234, 3) := by decide +kernel
theorem dX5_nextToken_198 : decode cX5_nextToken 198 = .ok (.aload_n 0, 1) := by decide +kernel
theorem dX5_nextToken_199 : decode cX5_nextToken 199 = .ok (.dup, 1) := by decide +kernel
theorem dX5_nextToken_200 : decode cX5_nextToken 200 = .ok (.getfield 216, 3) := by decide +kernel
theorem dX5_nextToken_203 : decode cX5_nextToken 203 = .ok (.iconst 1, 1) := by decide +kernel
theorem dX5_nextToken_204 : decode cX5_nextToken 204 = .ok (.iadd, 1) := by decide +kernel
theorem dX5_nextToken_205 : decode cX5_nextToken 205 = .ok (.putfield 216, 3) := by decide +kernel
theorem dX5_nextToken_208 : decode cX5_nextToken 208 = .ok (.goto (-72), 3) := by decide +kernel
theorem dX5_nextToken_211 : decode cX5_nextToken 211 = .ok (.aload_n 0, 1) := by decide +kernel
theorem dX5_nextToken_212 : decode cX5_nextToken 212 = .ok (.dup, 1) := by decide +kernel
theorem dX5_nextToken_213 : decode cX5_nextToken 213 = .ok (.getfield 216, 3) := by decide +kernel
theorem dX5_nextToken_216 : decode cX5_nextToken 216 = .ok (.aload_n 0, 1) := by decide +kernel
theorem dX5_nextToken_217 : decode cX5_nextToken 217 = .ok (.getfield 231, 3) := by decide +kernel
theorem dX5_nextToken_220 : decode cX5_nextToken 220 = .ok (.iconst 2, 1) := by decide +kernel
theorem dX5_nextToken_221 : decode cX5_nextToken 221 = .ok (.if_icmp .le 7, 3) := by decide +kernel
theorem dX5_nextToken_224 : decode cX5_nextToken 224 = .ok (.iconst 1, 1) := by decide +kernel
theorem dX5_nextToken_225 : decode cX5_nextToken 225 = .ok (.goto 4, 3) := by decide +kernel
theorem dX5_nextToken_228 : decode cX5_nextToken 228 = .ok (.iconst 0, 1) := by decide +kernel
theorem dX5_nextToken_229 : decode cX5_nextToken 229 = .ok (.iadd, 1) := by decide +kernel
theorem dX5_nextToken_230 : decode cX5_nextToken 230 = .ok (.putfield 216, 3) := by decide +kernel
theorem dX5_nextToken_233 : decode cX5_nextToken 233 = .ok (.return_, 1) := by decide +kernel
theorem dX5_has3_0 : decode cX5_has3 0 = .ok (.aload_n 0, 1) := by decide +kernel
theorem dX5_has3_1 : decode cX5_has3 1 = .ok (.aload_n 0, 1) := by decide +kernel
theorem dX5_has3_2 : decode cX5_has3 2 = .ok (.getfield 219, 3) := by decide +kernel
theorem dX5_has3_5 : decode cX5_has3 5 = .ok (.iload_n 1, 1) := by decide +kernel
theorem dX5_has3_6 : decode cX5_has3 6 = .ok (.iadd, 1) := by decide +kernel
theorem dX5_has3_7 : decode cX5_has3 7 = .ok (.invokevirtual 222, 3) := by decide +kernel
theorem dX5_has3_10 : decode cX5_has3 10 = .ok (.iload_n 2, 1) := by decide +kernel
theorem dX5_has3_11 : decode cX5_has3 11 = .ok (.if_icmp .ne 40, 3) := by decide +kernel
theorem dX5_has3_14 : decode cX5_has3 14 = .ok (.aload_n 0, 1) := by decide +kernel
theorem dX5_has3_15 : decode cX5_has3 15 = .ok (.aload_n 0, 1) := by decide +kernel
theorem dX5_has3_16 : decode cX5_has3 16 = .ok (.getfield 219, 3) := by decide +kernel
theorem dX5_has3_19 : decode cX5_has3 19 = .ok (.iload_n 1, 1) := by decide +kernel
theorem dX5_has3_20 : decode cX5_has3 20 = .ok (.iadd, 1) := by decide +kernel
theorem dX5_has3_21 : decode cX5_has3 21 = .ok (.iconst 1, 1) := by decide +kernel
theorem dX5_has3_22 : decode cX5_has3 22 = .ok (.iadd, 1) := by decide +kernel
theorem dX5_has3_23 : decode cX5_has3 23 = .ok (.invokevirtual 222, 3) := by decide +kernel
theorem dX5_has3_26 : decode cX5_has3 26 = .ok (.iload_n 3, 1) := by decide +kernel
theorem dX5_has3_27 : decode cX5_has3 27 = .ok (.if_icmp .ne 24, 3) := by decide +kernel
theorem dX5_has3_30 : decode cX5_has3 30 = .ok (.aload_n 0, 1) := by decide +kernel
theorem dX5_has3_31 : decode cX5_has3 31 = .ok (.aload_n 0, 1) := by decide +kernel
theorem dX5_has3_32 : decode cX5_has3 32 = .ok (.getfield 219, 3) := by decide +kernel
theorem dX5_has3_35 : decode cX5_has3 35 = .ok (.iload_n 1, 1) := by decide +kernel
theorem dX5_has3_36 : decode cX5_has3 36 = .ok (.iadd, 1) := by decide +kernel
theorem dX5_has3_37 : decode cX5_has3 37 = .ok (.iconst 2, 1) := by decide +kernel
theorem dX5_has3_38 : decode cX5_has3 38 = .ok (.iadd, 1) := by decide +kernel
theorem dX5_has3_39 : decode cX5_has3 39 = .ok (.invokevirtual 222, 3) := by decide +kernel
theorem dX5_has3_42 : decode cX5_has3 42 = .ok (.iload 4, 2) := by decide +kernel
theorem dX5_has3_44 : decode cX5_has3 44 = .ok (.if_icmp .ne 7, 3) := by decide +kernel
theorem dX5_has3_47 : decode cX5_has3 47 = .ok (.iconst 1, 1) := by decide +kernel
theorem dX5_has3_48 : decode cX5_has3 48 = .ok (.goto 4, 3) := by decide +kernel
theorem dX5_has3_51 : decode cX5_has3 51 = .ok (.iconst 0, 1) := by decide +kernel
theorem dX5_has3_52 : decode cX5_has3 52 = .ok (.ireturn, 1) := by decide +kernel
theorem dX5_isWord_0 : decode cX5_isWord 0 = .ok (.aload_n 0, 1) := by decide +kernel
theorem dX5_isWord_1 : decode cX5_isWord 1 = .ok (.getfield 231, 3) := by decide +kernel
theorem dX5_isWord_4 : decode cX5_isWord 4 = .ok (.iconst 1, 1) := by decide +kernel
theorem dX5_isWord_5 : decode cX5_isWord 5 = .ok (.if_icmp .ne 20, 3) := by decide +kernel
theorem dX5_isWord_8 : decode cX5_isWord 8 = .ok (.aload_n 0, 1) := by decide +kernel
theorem dX5_isWord_9 : decode cX5_isWord 9 = .ok (.getfield 216, 3) := by decide +kernel
theorem dX5_isWord_12 : decode cX5_isWord 12 = .ok (.aload_n 0, 1) := by decide +kernel
theorem dX5_isWord_13 : decode cX5_isWord 13 = .ok (.getfield 219, 3) := by decide +kernel
theorem dX5_isWord_16 : decode cX5_isWord 16 = .ok (.isub, 1) := by decide +kernel
theorem dX5_isWord_17 : decode cX5_isWord 17 = .ok (.iload_n 1, 1) := by decide +kernel
theorem dX5_isWord_18 : decode cX5_isWord 18 = .ok (.if_icmp .ne 7, 3) := by decide +kernel
theorem dX5_isWord_21 : decode cX5_isWord 21 = .ok (.iconst 1, 1) := by decide +kernel
theorem dX5_isWord_22 : decode cX5_isWord 22 = .ok (.goto 4, 3) := by decide +kernel
theorem dX5_isWord_25 : decode cX5_isWord 25 = .ok (.iconst 0, 1) := by decide +kernel
theorem dX5_isWord_26 : decode cX5_isWord 26 = .ok (.ireturn, 1) := by decide +kernel
theorem dX5_fails_0 : decode cX5_fails 0 = .ok (.aload_n 0, 1) := by decide +kernel
theorem dX5_fails_1 : decode cX5_fails 1 = .ok (.aload_n 0, 1) := by decide +kernel
theorem dX5_fails_2 : decode cX5_fails 2 = .ok (.getfield 219, 3) := by decide +kernel
theorem dX5_fails_5 : decode cX5_fails 5 = .ok (.putfield 237, 3) := by decide +kernel
theorem dX5_fails_8 : decode cX5_fails 8 = .ok (.iconst 0, 1) := by decide +kernel
theorem dX5_fails_9 : decode cX5_fails 9 = .ok (.ireturn, 1) := by decide +kernel
theorem dX5_isFour_0 : decode cX5_isFour 0 = .ok (.aload_n 0, 1) := by decide +kernel
theorem dX5_isFour_1 : decode cX5_isFour 1 = .ok (.iconst 4, 1) := by decide +kernel
theorem dX5_isFour_2 : decode cX5_isFour 2 = .ok (.invokevirtual 240, 3) := by decide +kernel
theorem dX5_isFour_5 : decode cX5_isFour 5 = .ok (.ifCond .eq 30, 3) := by decide +kernel
theorem dX5_isFour_8 : decode cX5_isFour 8 = .ok (.aload_n 0, 1) := by decide +kernel
theorem dX5_isFour_9 : decode cX5_isFour 9 = .ok (.iconst 0, 1) := by decide +kernel
theorem dX5_isFour_10 : decode cX5_isFour 10 = .ok (.iload_n 1, 1) := by decide +kernel
theorem dX5_isFour_11 : decode cX5_isFour 11 = .ok (.iload_n 2, 1) := by decide +kernel
theorem dX5_isFour_12 : decode cX5_isFour 12 = .ok (.iload_n 3, 1) := by decide +kernel
theorem dX5_isFour_13 : decode cX5_isFour 13 = .ok (.invokevirtual 243, 3) := by decide +kernel
theorem dX5_isFour_16 : decode cX5_isFour 16 = .ok (.ifCond .eq 19, 3) := by decide +kernel
theorem dX5_isFour_19 : decode cX5_isFour 19 = .ok (.aload_n 0, 1) := by decide +kernel
theorem dX5_isFour_20 : decode cX5_isFour 20 = .ok (.iconst 1, 1) := by decide +kernel
theorem dX5_isFour_21 : decode cX5_isFour 21 = .ok (.iload_n 2, 1) := by decide +kernel
theorem dX5_isFour_22 : decode cX5_isFour 22 = .ok (.iload_n 3, 1) := by decide +kernel
theorem dX5_isFour_23 : decode cX5_isFour 23 = .ok (.iload 4, 2) := by decide +kernel
theorem dX5_isFour_25 : decode cX5_isFour 25 = .ok (.invokevirtual 243, 3) := by decide +kernel
theorem dX5_isFour_28 : decode cX5_isFour 28 = .ok (.ifCond .eq 7, 3) := by decide +kernel
theorem dX5_isFour_31 : decode cX5_isFour 31 = .ok (.iconst 1, 1) := by decide +kernel
theorem dX5_isFour_32 : decode cX5_isFour 32 = .ok (.goto 4, 3) := by decide +kernel
theorem dX5_isFour_35 : decode cX5_isFour 35 = .ok (.iconst 0, 1) := by decide +kernel
theorem dX5_isFour_36 : decode cX5_isFour 36 = .ok (.ireturn, 1) := by decide +kernel
theorem dX5_isFive_0 : decode cX5_isFive 0 = .ok (.aload_n 0, 1) := by decide +kernel
theorem dX5_isFive_1 : decode cX5_isFive 1 = .ok (.iconst 5, 1) := by decide +kernel
theorem dX5_isFive_2 : decode cX5_isFive 2 = .ok (.invokevirtual 240, 3) := by decide +kernel
theorem dX5_isFive_5 : decode cX5_isFive 5 = .ok (.ifCond .eq 31, 3) := by decide +kernel
theorem dX5_isFive_8 : decode cX5_isFive 8 = .ok (.aload_n 0, 1) := by decide +kernel
theorem dX5_isFive_9 : decode cX5_isFive 9 = .ok (.iconst 0, 1) := by decide +kernel
theorem dX5_isFive_10 : decode cX5_isFive 10 = .ok (.iload_n 1, 1) := by decide +kernel
theorem dX5_isFive_11 : decode cX5_isFive 11 = .ok (.iload_n 2, 1) := by decide +kernel
theorem dX5_isFive_12 : decode cX5_isFive 12 = .ok (.iload_n 3, 1) := by decide +kernel
theorem dX5_isFive_13 : decode cX5_isFive 13 = .ok (.invokevirtual 243, 3) := by decide +kernel
theorem dX5_isFive_16 : decode cX5_isFive 16 = .ok (.ifCond .eq 20, 3) := by decide +kernel
theorem dX5_isFive_19 : decode cX5_isFive 19 = .ok (.aload_n 0, 1) := by decide +kernel
theorem dX5_isFive_20 : decode cX5_isFive 20 = .ok (.iconst 2, 1) := by decide +kernel
theorem dX5_isFive_21 : decode cX5_isFive 21 = .ok (.iload_n 3, 1) := by decide +kernel
theorem dX5_isFive_22 : decode cX5_isFive 22 = .ok (.iload 4, 2) := by decide +kernel
theorem dX5_isFive_24 : decode cX5_isFive 24 = .ok (.iload 5, 2) := by decide +kernel
theorem dX5_isFive_26 : decode cX5_isFive 26 = .ok (.invokevirtual 243, 3) := by decide +kernel
theorem dX5_isFive_29 : decode cX5_isFive 29 = .ok (.ifCond .eq 7, 3) := by decide +kernel
theorem dX5_isFive_32 : decode cX5_isFive 32 = .ok (.iconst 1, 1) := by decide +kernel
theorem dX5_isFive_33 : decode cX5_isFive 33 = .ok (.goto 4, 3) := by decide +kernel
theorem dX5_isFive_36 : decode cX5_isFive 36 = .ok (.iconst 0, 1) := by decide +kernel
theorem dX5_isFive_37 : decode cX5_isFive 37 = .ok (.ireturn, 1) := by decide +kernel
theorem dX5_isSix_0 : decode cX5_isSix 0 = .ok (.aload_n 0, 1) := by decide +kernel
theorem dX5_isSix_1 : decode cX5_isSix 1 = .ok (.bipush 6, 2) := by decide +kernel
theorem dX5_isSix_3 : decode cX5_isSix 3 = .ok (.invokevirtual 240, 3) := by decide +kernel
theorem dX5_isSix_6 : decode cX5_isSix 6 = .ok (.ifCond .eq 32, 3) := by decide +kernel
theorem dX5_isSix_9 : decode cX5_isSix 9 = .ok (.aload_n 0, 1) := by decide +kernel
theorem dX5_isSix_10 : decode cX5_isSix 10 = .ok (.iconst 0, 1) := by decide +kernel
theorem dX5_isSix_11 : decode cX5_isSix 11 = .ok (.iload_n 1, 1) := by decide +kernel
theorem dX5_isSix_12 : decode cX5_isSix 12 = .ok (.iload_n 2, 1) := by decide +kernel
theorem dX5_isSix_13 : decode cX5_isSix 13 = .ok (.iload_n 3, 1) := by decide +kernel
theorem dX5_isSix_14 : decode cX5_isSix 14 = .ok (.invokevirtual 243, 3) := by decide +kernel
theorem dX5_isSix_17 : decode cX5_isSix 17 = .ok (.ifCond .eq 21, 3) := by decide +kernel
theorem dX5_isSix_20 : decode cX5_isSix 20 = .ok (.aload_n 0, 1) := by decide +kernel
theorem dX5_isSix_21 : decode cX5_isSix 21 = .ok (.iconst 3, 1) := by decide +kernel
theorem dX5_isSix_22 : decode cX5_isSix 22 = .ok (.iload 4, 2) := by decide +kernel
theorem dX5_isSix_24 : decode cX5_isSix 24 = .ok (.iload 5, 2) := by decide +kernel
theorem dX5_isSix_26 : decode cX5_isSix 26 = .ok (.iload 6, 2) := by decide +kernel
theorem dX5_isSix_28 : decode cX5_isSix 28 = .ok (.invokevirtual 243, 3) := by decide +kernel
theorem dX5_isSix_31 : decode cX5_isSix 31 = .ok (.ifCond .eq 7, 3) := by decide +kernel
theorem dX5_isSix_34 : decode cX5_isSix 34 = .ok (.iconst 1, 1) := by decide +kernel
theorem dX5_isSix_35 : decode cX5_isSix 35 = .ok (.goto 4, 3) := by decide +kernel
theorem dX5_isSix_38 : decode cX5_isSix 38 = .ok (.iconst 0, 1) := by decide +kernel
theorem dX5_isSix_39 : decode cX5_isSix 39 = .ok (.ireturn, 1) := by decide +kernel
theorem dX5_isNumber_0 : decode cX5_isNumber 0 = .ok (.aload_n 0, 1) := by decide +kernel
theorem dX5_isNumber_1 : decode cX5_isNumber 1 = .ok (.getfield 231, 3) := by decide +kernel
theorem dX5_isNumber_4 : decode cX5_isNumber 4 = .ok (.iconst 2, 1) := by decide +kernel
theorem dX5_isNumber_5 : decode cX5_isNumber 5 = .ok (.if_icmp .ne 18, 3) := by decide +kernel
theorem dX5_isNumber_8 : decode cX5_isNumber 8 = .ok (.aload_n 0, 1) := by decide +kernel
theorem dX5_isNumber_9 : decode cX5_isNumber 9 = .ok (.getfield 234, 3) := by decide +kernel
theorem dX5_isNumber_12 : decode cX5_isNumber 12 = .ok (.i2l, 1) := by decide +kernel
theorem dX5_isNumber_13 : decode cX5_isNumber 13 = .ok (.iload_n 1, 1) := by decide +kernel
theorem dX5_isNumber_14 : decode cX5_isNumber 14 = .ok (.i2l, 1) := by decide +kernel
theorem dX5_isNumber_15 : decode cX5_isNumber 15 = .ok (.iload_n 2, 1) := by decide +kernel
theorem dX5_isNumber_16 : decode cX5_isNumber 16 = .ok (.i2l, 1) := by decide +kernel
theorem dX5_isNumber_17 : decode cX5_isNumber 17 = .ok (.invokestatic 56, 3) := by decide +kernel
theorem dX5_isNumber_20 : decode cX5_isNumber 20 = .ok (.ifCond .ne 10, 3) := by decide +kernel
theorem dX5_isNumber_23 : decode cX5_isNumber 23 = .ok (.aload_n 0, 1) := by decide +kernel
theorem dX5_isNumber_24 : decode cX5_isNumber 24 = .ok (.invokevirtual 247, 3) := by decide +kernel
theorem dX5_isNumber_27 : decode cX5_isNumber 27 = .ok (.ifCond .eq 7, 3) := by decide +kernel
theorem dX5_isNumber_30 : decode cX5_isNumber 30 = .ok (.iconst 1, 1) := by decide +kernel
theorem dX5_isNumber_31 : decode cX5_isNumber 31 = .ok (.goto 4, 3) := by decide +kernel
theorem dX5_isNumber_34 : decode cX5_isNumber 34 = .ok (.iconst 0, 1) := by decide +kernel
theorem dX5_isNumber_35 : decode cX5_isNumber 35 = .ok (.ireturn, 1) := by decide +kernel
theorem dX5_kindHere_0 : decode cX5_kindHere 0 = .ok (.aload_n 0, 1) := by decide +kernel
theorem dX5_kindHere_1 : decode cX5_kindHere 1 = .ok (.bipush 109, 2) := by decide +kernel
theorem dX5_kindHere_3 : decode cX5_kindHere 3 = .ok (.bipush 111, 2) := by decide +kernel
theorem dX5_kindHere_5 : decode cX5_kindHere 5 = .ok (.bipush 116, 2) := by decide +kernel
theorem dX5_kindHere_7 : decode cX5_kindHere 7 = .ok (.bipush 104, 2) := by decide +kernel
theorem dX5_kindHere_9 : decode cX5_kindHere 9 = .ok (.invokevirtual 250, 3) := by decide +kernel
theorem dX5_kindHere_12 : decode cX5_kindHere 12 = .ok (.ifCond .eq 5, 3) := by decide +kernel
theorem dX5_kindHere_15 : decode cX5_kindHere 15 = .ok (.iconst 0, 1) := by decide +kernel
theorem dX5_kindHere_16 : decode cX5_kindHere 16 = .ok (.ireturn, 1) := by decide +kernel
theorem dX5_kindHere_17 : decode cX5_kindHere 17 = .ok (.aload_n 0, 1) := by decide +kernel
theorem dX5_kindHere_18 : decode cX5_kindHere 18 = .ok (.bipush 108, 2) := by decide +kernel
theorem dX5_kindHere_20 : decode cX5_kindHere 20 = .ok (.bipush 97, 2) := by decide +kernel
theorem dX5_kindHere_22 : decode cX5_kindHere 22 = .ok (.bipush 114, 2) := by decide +kernel
theorem dX5_kindHere_24 : decode cX5_kindHere 24 = .ok (.bipush 118, 2) := by decide +kernel
theorem dX5_kindHere_26 : decode cX5_kindHere 26 = .ok (.bipush 97, 2) := by decide +kernel
theorem dX5_kindHere_28 : decode cX5_kindHere 28 = .ok (.invokevirtual 253, 3) := by decide +kernel
theorem dX5_kindHere_31 : decode cX5_kindHere 31 = .ok (.ifCond .eq 5, 3) := by decide +kernel
theorem dX5_kindHere_34 : decode cX5_kindHere 34 = .ok (.iconst 1, 1) := by decide +kernel
theorem dX5_kindHere_35 : decode cX5_kindHere 35 = .ok (.ireturn, 1) := by decide +kernel
theorem dX5_kindHere_36 : decode cX5_kindHere 36 = .ok (.aload_n 0, 1) := by decide +kernel
theorem dX5_kindHere_37 : decode cX5_kindHere 37 = .ok (.bipush 115, 2) := by decide +kernel
theorem dX5_kindHere_39 : decode cX5_kindHere 39 = .ok (.bipush 105, 2) := by decide +kernel
theorem dX5_kindHere_41 : decode cX5_kindHere 41 = .ok (.bipush 108, 2) := by decide +kernel
theorem dX5_kindHere_43 : decode cX5_kindHere 43 = .ok (.bipush 118, 2) := by decide +kernel
theorem dX5_kindHere_45 : decode cX5_kindHere 45 = .ok (.bipush 101, 2) := by decide +kernel
theorem dX5_kindHere_47 : decode cX5_kindHere 47 = .ok (.bipush 114, 2) := by decide +kernel
theorem dX5_kindHere_49 : decode cX5_kindHere 49 = .ok (.invokevirtual 257, 3) := by decide +kernel
theorem dX5_kindHere_52 : decode cX5_kindHere 52 = .ok (.ifCond .eq 5, 3) := by decide +kernel
theorem dX5_kindHere_55 : decode cX5_kindHere 55 = .ok (.iconst 2, 1) := by decide +kernel
theorem dX5_kindHere_56 : decode cX5_kindHere 56 = .ok (.ireturn, 1) := by decide +kernel
theorem dX5_kindHere_57 : decode cX5_kindHere 57 = .ok (.aload_n 0, 1) := by decide +kernel
theorem dX5_kindHere_58 : decode cX5_kindHere 58 = .ok (.bipush 7, 2) := by decide +kernel
theorem dX5_kindHere_60 : decode cX5_kindHere 60 = .ok (.invokevirtual 240, 3) := by decide +kernel
theorem dX5_kindHere_63 : decode cX5_kindHere 63 = .ok (.ifCond .eq 47, 3) := by decide +kernel
theorem dX5_kindHere_66 : decode cX5_kindHere 66 = .ok (.aload_n 0, 1) := by decide +kernel
theorem dX5_kindHere_67 : decode cX5_kindHere 67 = .ok (.iconst 0, 1) := by decide +kernel
theorem dX5_kindHere_68 : decode cX5_kindHere 68 = .ok (.bipush 115, 2) := by decide +kernel
theorem dX5_kindHere_70 : decode cX5_kindHere 70 = .ok (.bipush 99, 2) := by decide +kernel
theorem dX5_kindHere_72 : decode cX5_kindHere 72 = .ok (.bipush 104, 2) := by decide +kernel
theorem dX5_kindHere_74 : decode cX5_kindHere 74 = .ok (.invokevirtual 243, 3) := by decide +kernel
theorem dX5_kindHere_77 : decode cX5_kindHere 77 = .ok (.ifCond .eq 33, 3) := by decide +kernel
theorem dX5_kindHere_80 : decode cX5_kindHere 80 = .ok (.aload_n 0, 1) := by decide +kernel
theorem dX5_kindHere_81 : decode cX5_kindHere 81 = .ok (.iconst 3, 1) := by decide +kernel
theorem dX5_kindHere_82 : decode cX5_kindHere 82 = .ok (.bipush 111, 2) := by decide +kernel
theorem dX5_kindHere_84 : decode cX5_kindHere 84 = .ok (.bipush 108, 2) := by decide +kernel
theorem dX5_kindHere_86 : decode cX5_kindHere 86 = .ok (.bipush 97, 2) := by decide +kernel
theorem dX5_kindHere_88 : decode cX5_kindHere 88 = .ok (.invokevirtual 243, 3) := by decide +kernel
theorem dX5_kindHere_91 : decode cX5_kindHere 91 = .ok (.ifCond .eq 19, 3) := by decide +kernel
theorem dX5_kindHere_94 : decode cX5_kindHere 94 = .ok (.aload_n 0, 1) := by decide +kernel
theorem dX5_kindHere_95 : decode cX5_kindHere 95 = .ok (.iconst 4, 1) := by decide +kernel
theorem dX5_kindHere_96 : decode cX5_kindHere 96 = .ok (.bipush 108, 2) := by decide +kernel
theorem dX5_kindHere_98 : decode cX5_kindHere 98 = .ok (.bipush 97, 2) := by decide +kernel
theorem dX5_kindHere_100 : decode cX5_kindHere 100 = .ok (.bipush 114, 2) := by decide +kernel
theorem dX5_kindHere_102 : decode cX5_kindHere 102 = .ok (.invokevirtual 243, 3) := by decide +kernel
theorem dX5_kindHere_105 : decode cX5_kindHere 105 = .ok (.ifCond .eq 5, 3) := by decide +kernel
theorem dX5_kindHere_108 : decode cX5_kindHere 108 = .ok (.iconst 3, 1) := by decide +kernel
theorem dX5_kindHere_109 : decode cX5_kindHere 109 = .ok (.ireturn, 1) := by decide +kernel
theorem dX5_kindHere_110 : decode cX5_kindHere 110 = .ok (.aload_n 0, 1) := by decide +kernel
theorem dX5_kindHere_111 : decode cX5_kindHere 111 = .ok (.bipush 98, 2) := by decide +kernel
theorem dX5_kindHere_113 : decode cX5_kindHere 113 = .ok (.bipush 105, 2) := by decide +kernel
theorem dX5_kindHere_115 : decode cX5_kindHere 115 = .ok (.bipush 115, 2) := by decide +kernel
theorem dX5_kindHere_117 : decode cX5_kindHere 117 = .ok (.bipush 104, 2) := by decide +kernel
theorem dX5_kindHere_119 : decode cX5_kindHere 119 = .ok (.bipush 111, 2) := by decide +kernel
theorem dX5_kindHere_121 : decode cX5_kindHere 121 = .ok (.bipush 112, 2) := by decide +kernel
theorem dX5_kindHere_123 : decode cX5_kindHere 123 = .ok (.invokevirtual 257, 3) := by decide +kernel
theorem dX5_kindHere_126 : decode cX5_kindHere 126 = .ok (.ifCond .eq 5, 3) := by decide +kernel
theorem dX5_kindHere_129 : decode cX5_kindHere 129 = .ok (.iconst 4, 1) := by decide +kernel
theorem dX5_kindHere_130 : decode cX5_kindHere 130 = .ok (.ireturn, 1) := by decide +kernel
theorem dX5_kindHere_131 : decode cX5_kindHere 131 = .ok (.aload_n 0, 1) := by decide +kernel
theorem dX5_kindHere_132 : decode cX5_kindHere 132 = .ok (.iconst 3, 1) := by decide +kernel
theorem dX5_kindHere_133 : decode cX5_kindHere 133 = .ok (.invokevirtual 240, 3) := by decide +kernel
theorem dX5_kindHere_136 : decode cX5_kindHere 136 = .ok (.ifCond .eq 19, 3) := by decide +kernel
theorem dX5_kindHere_139 : decode cX5_kindHere 139 = .ok (.aload_n 0, 1) := by decide +kernel
theorem dX5_kindHere_140 : decode cX5_kindHere 140 = .ok (.iconst 0, 1) := by decide +kernel
theorem dX5_kindHere_141 : decode cX5_kindHere 141 = .ok (.bipush 111, 2) := by decide +kernel
theorem dX5_kindHere_143 : decode cX5_kindHere 143 = .ok (.bipush 108, 2) := by decide +kernel
theorem dX5_kindHere_145 : decode cX5_kindHere 145 = .ok (.bipush 100, 2) := by decide +kernel
theorem dX5_kindHere_147 : decode cX5_kindHere 147 = .ok (.invokevirtual 243, 3) := by decide +kernel
theorem dX5_kindHere_150 : decode cX5_kindHere 150 = .ok (.ifCond .eq 5, 3) := by decide +kernel
theorem dX5_kindHere_153 : decode cX5_kindHere 153 = .ok (.iconst 5, 1) := by decide +kernel
theorem dX5_kindHere_154 : decode cX5_kindHere 154 = .ok (.ireturn, 1) := by decide +kernel
theorem dX5_kindHere_155 : decode cX5_kindHere 155 = .ok (.aload_n 0, 1) := by decide +kernel
theorem dX5_kindHere_156 : decode cX5_kindHere 156 = .ok (.bipush 103, 2) := by decide +kernel
theorem dX5_kindHere_158 : decode cX5_kindHere 158 = .ok (.bipush 114, 2) := by decide +kernel
theorem dX5_kindHere_160 : decode cX5_kindHere 160 = .ok (.bipush 117, 2) := by decide +kernel
theorem dX5_kindHere_162 : decode cX5_kindHere 162 = .ok (.bipush 98, 2) := by decide +kernel
theorem dX5_kindHere_164 : decode cX5_kindHere 164 = .ok (.invokevirtual 250, 3) := by decide +kernel
theorem dX5_kindHere_167 : decode cX5_kindHere 167 = .ok (.ifCond .eq 8, 3) := by decide +kernel
theorem dX5_kindHere_170 : decode cX5_kindHere 170 = .ok (.bipush 6, 2) := by decide +kernel
theorem dX5_kindHere_172 : decode cX5_kindHere 172 = .ok (.goto 4, 3) := by decide +kernel
theorem dX5_kindHere_175 : decode cX5_kindHere 175 = .ok (.iconst (-1), 1) := by decide +kernel
theorem dX5_kindHere_176 : decode cX5_kindHere 176 = .ok (.ireturn, 1) := by decide +kernel
theorem dX5_isTwo_0 : decode cX5_isTwo 0 = .ok (.aload_n 0, 1) := by decide +kernel
theorem dX5_isTwo_1 : decode cX5_isTwo 1 = .ok (.iconst 2, 1) := by decide +kernel
theorem dX5_isTwo_2 : decode cX5_isTwo 2 = .ok (.invokevirtual 240, 3) := by decide +kernel
theorem dX5_isTwo_5 : decode cX5_isTwo 5 = .ok (.ifCond .eq 33, 3) := by decide +kernel
theorem dX5_isTwo_8 : decode cX5_isTwo 8 = .ok (.aload_n 0, 1) := by decide +kernel
theorem dX5_isTwo_9 : decode cX5_isTwo 9 = .ok (.aload_n 0, 1) := by decide +kernel
theorem dX5_isTwo_10 : decode cX5_isTwo 10 = .ok (.getfield 219, 3) := by decide +kernel
theorem dX5_isTwo_13 : decode cX5_isTwo 13 = .ok (.invokevirtual 222, 3) := by decide +kernel
theorem dX5_isTwo_16 : decode cX5_isTwo 16 = .ok (.iload_n 1, 1) := by decide +kernel
theorem dX5_isTwo_17 : decode cX5_isTwo 17 = .ok (.if_icmp .ne 21, 3) := by decide +kernel
theorem dX5_isTwo_20 : decode cX5_isTwo 20 = .ok (.aload_n 0, 1) := by decide +kernel
theorem dX5_isTwo_21 : decode cX5_isTwo 21 = .ok (.aload_n 0, 1) := by decide +kernel
theorem dX5_isTwo_22 : decode cX5_isTwo 22 = .ok (.getfield 219, 3) := by decide +kernel
theorem dX5_isTwo_25 : decode cX5_isTwo 25 = .ok (.iconst 1, 1) := by decide +kernel
theorem dX5_isTwo_26 : decode cX5_isTwo 26 = .ok (.iadd, 1) := by decide +kernel
theorem dX5_isTwo_27 : decode cX5_isTwo 27 = .ok (.invokevirtual 222, 3) := by decide +kernel
theorem dX5_isTwo_30 : decode cX5_isTwo 30 = .ok (.iload_n 2, 1) := by decide +kernel
theorem dX5_isTwo_31 : decode cX5_isTwo 31 = .ok (.if_icmp .ne 7, 3) := by decide +kernel
theorem dX5_isTwo_34 : decode cX5_isTwo 34 = .ok (.iconst 1, 1) := by decide +kernel
theorem dX5_isTwo_35 : decode cX5_isTwo 35 = .ok (.goto 4, 3) := by decide +kernel
theorem dX5_isTwo_38 : decode cX5_isTwo 38 = .ok (.iconst 0, 1) := by decide +kernel
theorem dX5_isTwo_39 : decode cX5_isTwo 39 = .ok (.ireturn, 1) := by decide +kernel
theorem dX5_perhaps_0 : decode cX5_perhaps 0 = .ok (.iload_n 1, 1) := by decide +kernel
theorem dX5_perhaps_1 : decode cX5_perhaps 1 = .ok (.ifCond .ne 5, 3) := by decide +kernel
theorem dX5_perhaps_4 : decode cX5_perhaps 4 = .ok (.iconst 1, 1) := by decide +kernel
theorem dX5_perhaps_5 : decode cX5_perhaps 5 = .ok (.ireturn, 1) := by decide +kernel
theorem dX5_perhaps_6 : decode cX5_perhaps 6 = .ok (.aload_n 0, 1) := by decide +kernel
theorem dX5_perhaps_7 : decode cX5_perhaps 7 = .ok (.invokevirtual 261, 3) := by decide +kernel
theorem dX5_perhaps_10 : decode cX5_perhaps 10 = .ok (.aload_n 0, 1) := by decide +kernel
theorem dX5_perhaps_11 : decode cX5_perhaps 11 = .ok (.iload_n 3, 1) := by decide +kernel
theorem dX5_perhaps_12 : decode cX5_perhaps 12 = .ok (.iload 4, 2) := by decide +kernel
theorem dX5_perhaps_14 : decode cX5_perhaps 14 = .ok (.invokevirtual 264, 3) := by decide +kernel
theorem dX5_perhaps_17 : decode cX5_perhaps 17 = .ok (.ifCond .ne 5, 3) := by decide +kernel
theorem dX5_perhaps_20 : decode cX5_perhaps 20 = .ok (.iconst 0, 1) := by decide +kernel
theorem dX5_perhaps_21 : decode cX5_perhaps 21 = .ok (.ireturn, 1) := by decide +kernel
theorem dX5_perhaps_22 : decode cX5_perhaps 22 = .ok (.aload_n 0, 1) := by decide +kernel
theorem dX5_perhaps_23 : decode cX5_perhaps 23 = .ok (.getfield 7, 3) := by decide +kernel
theorem dX5_perhaps_26 : decode cX5_perhaps 26 = .ok (.aload_n 0, 1) := by decide +kernel
theorem dX5_perhaps_27 : decode cX5_perhaps 27 = .ok (.getfield 7, 3) := by decide +kernel
theorem dX5_perhaps_30 : decode cX5_perhaps 30 = .ok (.iconst 0, 1) := by decide +kernel
theorem dX5_perhaps_31 : decode cX5_perhaps 31 = .ok (.iaload, 1) := by decide +kernel
theorem dX5_perhaps_32 : decode cX5_perhaps 32 = .ok (.iconst 1, 1) := by decide +kernel
theorem dX5_perhaps_33 : decode cX5_perhaps 33 = .ok (.isub, 1) := by decide +kernel
theorem dX5_perhaps_34 : decode cX5_perhaps 34 = .ok (.iload_n 2, 1) := by decide +kernel
theorem dX5_perhaps_35 : decode cX5_perhaps 35 = .ok (.invokestatic 84, 3) := by decide +kernel
theorem dX5_perhaps_38 : decode cX5_perhaps 38 = .ok (.aload_n 0, 1) := by decide +kernel
theorem dX5_perhaps_39 : decode cX5_perhaps 39 = .ok (.getfield 234, 3) := by decide +kernel
theorem dX5_perhaps_42 : decode cX5_perhaps 42 = .ok (.iastore, 1) := by decide +kernel
theorem dX5_perhaps_43 : decode cX5_perhaps 43 = .ok (.aload_n 0, 1) := by decide +kernel
theorem dX5_perhaps_44 : decode cX5_perhaps 44 = .ok (.invokevirtual 261, 3) := by decide +kernel
theorem dX5_perhaps_47 : decode cX5_perhaps 47 = .ok (.iconst 1, 1) := by decide +kernel
theorem dX5_perhaps_48 : decode cX5_perhaps 48 = .ok (.ireturn, 1) := by decide +kernel
theorem dX5_mothHere_0 : decode cX5_mothHere 0 = .ok (.aload_n 0, 1) := by decide +kernel
theorem dX5_mothHere_1 : decode cX5_mothHere 1 = .ok (.getfield 7, 3) := by decide +kernel
theorem dX5_mothHere_4 : decode cX5_mothHere 4 = .ok (.iconst 0, 1) := by decide +kernel
theorem dX5_mothHere_5 : decode cX5_mothHere 5 = .ok (.iaload, 1) := by decide +kernel
theorem dX5_mothHere_6 : decode cX5_mothHere 6 = .ok (.bipush 8, 2) := by decide +kernel
theorem dX5_mothHere_8 : decode cX5_mothHere 8 = .ok (.if_icmp .ne 8, 3) := by decide +kernel
theorem dX5_mothHere_11 : decode cX5_mothHere 11 = .ok (.aload_n 0, 1) := by decide +kernel
theorem dX5_mothHere_12 : decode cX5_mothHere 12 = .ok (.invokevirtual 247, 3) := by decide +kernel
theorem dX5_mothHere_15 : decode cX5_mothHere 15 = .ok (.ireturn, 1) := by decide +kernel
theorem dX5_mothHere_16 : decode cX5_mothHere 16 = .ok (.aload_n 0, 1) := by decide +kernel
theorem dX5_mothHere_17 : decode cX5_mothHere 17 = .ok (.iload_n 1, 1) := by decide +kernel
theorem dX5_mothHere_18 : decode cX5_mothHere 18 = .ok (.iconst 0, 1) := by decide +kernel
theorem dX5_mothHere_19 : decode cX5_mothHere 19 = .ok (.invokevirtual 90, 3) := by decide +kernel
theorem dX5_mothHere_22 : decode cX5_mothHere 22 = .ok (.aload_n 0, 1) := by decide +kernel
theorem dX5_mothHere_23 : decode cX5_mothHere 23 = .ok (.invokevirtual 261, 3) := by decide +kernel
theorem dX5_mothHere_26 : decode cX5_mothHere 26 = .ok (.aload_n 0, 1) := by decide +kernel
theorem dX5_mothHere_27 : decode cX5_mothHere 27 = .ok (.aload_n 0, 1) := by decide +kernel
theorem dX5_mothHere_28 : decode cX5_mothHere 28 = .ok (.bipush 111, 2) := by decide +kernel
theorem dX5_mothHere_30 : decode cX5_mothHere 30 = .ok (.bipush 110, 2) := by decide +kernel
theorem dX5_mothHere_32 : decode cX5_mothHere 32 = .ok (.invokevirtual 267, 3) := by decide +kernel
theorem dX5_mothHere_35 : decode cX5_mothHere 35 = .ok (.iconst 1, 1) := by decide +kernel
theorem dX5_mothHere_36 : decode cX5_mothHere 36 = .ok (.iconst 0, 1) := by decide +kernel
theorem dX5_mothHere_37 : decode cX5_mothHere 37 = .ok (.iconst 5, 1) := by decide +kernel
theorem dX5_mothHere_38 : decode cX5_mothHere 38 = .ok (.invokevirtual 270, 3) := by decide +kernel
theorem dX5_mothHere_41 : decode cX5_mothHere 41 = .ok (.ifCond .eq 71, 3) := by decide +kernel
theorem dX5_mothHere_44 : decode cX5_mothHere 44 = .ok (.aload_n 0, 1) := by decide +kernel
theorem dX5_mothHere_45 : decode cX5_mothHere 45 = .ok (.aload_n 0, 1) := by decide +kernel
theorem dX5_mothHere_46 : decode cX5_mothHere 46 = .ok (.bipush 116, 2) := by decide +kernel
theorem dX5_mothHere_48 : decode cX5_mothHere 48 = .ok (.bipush 97, 2) := by decide +kernel
theorem dX5_mothHere_50 : decode cX5_mothHere 50 = .ok (.bipush 115, 2) := by decide +kernel
theorem dX5_mothHere_52 : decode cX5_mothHere 52 = .ok (.bipush 116, 2) := by decide +kernel
theorem dX5_mothHere_54 : decode cX5_mothHere 54 = .ok (.bipush 101, 2) := by decide +kernel
theorem dX5_mothHere_56 : decode cX5_mothHere 56 = .ok (.invokevirtual 253, 3) := by decide +kernel
theorem dX5_mothHere_59 : decode cX5_mothHere 59 = .ok (.iconst 2, 1) := by decide +kernel
theorem dX5_mothHere_60 : decode cX5_mothHere 60 = .ok (.iconst 1, 1) := by decide +kernel
theorem dX5_mothHere_61 : decode cX5_mothHere 61 = .ok (.bipush 9, 2) := by decide +kernel
theorem dX5_mothHere_63 : decode cX5_mothHere 63 = .ok (.invokevirtual 270, 3) := by decide +kernel
theorem dX5_mothHere_66 : decode cX5_mothHere 66 = .ok (.ifCond .eq 46, 3) := by decide +kernel
theorem dX5_mothHere_69 : decode cX5_mothHere 69 = .ok (.aload_n 0, 1) := by decide +kernel
theorem dX5_mothHere_70 : decode cX5_mothHere 70 = .ok (.aload_n 0, 1) := by decide +kernel
theorem dX5_mothHere_71 : decode cX5_mothHere 71 = .ok (.iconst 3, 1) := by decide +kernel
theorem dX5_mothHere_72 : decode cX5_mothHere 72 = .ok (.invokevirtual 240, 3) := by decide +kernel
theorem dX5_mothHere_75 : decode cX5_mothHere 75 = .ok (.ifCond .eq 21, 3) := by decide +kernel
theorem dX5_mothHere_78 : decode cX5_mothHere 78 = .ok (.aload_n 0, 1) := by decide +kernel
theorem dX5_mothHere_79 : decode cX5_mothHere 79 = .ok (.iconst 0, 1) := by decide +kernel
theorem dX5_mothHere_80 : decode cX5_mothHere 80 = .ok (.bipush 102, 2) := by decide +kernel
theorem dX5_mothHere_82 : decode cX5_mothHere 82 = .ok (.bipush 101, 2) := by decide +kernel
theorem dX5_mothHere_84 : decode cX5_mothHere 84 = .ok (.bipush 100, 2) := by decide +kernel
theorem dX5_mothHere_86 : decode cX5_mothHere 86 = .ok (.invokevirtual 243, 3) := by decide +kernel
theorem dX5_mothHere_89 : decode cX5_mothHere 89 = .ok (.ifCond .eq 7, 3) := by decide +kernel
theorem dX5_mothHere_92 : decode cX5_mothHere 92 = .ok (.iconst 1, 1) := by decide +kernel
theorem dX5_mothHere_93 : decode cX5_mothHere 93 = .ok (.goto 4, 3) := by decide +kernel
theorem dX5_mothHere_96 : decode cX5_mothHere 96 = .ok (.iconst 0, 1) := by decide +kernel
theorem dX5_mothHere_97 : decode cX5_mothHere 97 = .ok (.iconst 3, 1) := by decide +kernel
theorem dX5_mothHere_98 : decode cX5_mothHere 98 = .ok (.iconst 0, 1) := by decide +kernel
theorem dX5_mothHere_99 : decode cX5_mothHere 99 = .ok (.sipush 999, 3) := by decide +kernel
theorem dX5_mothHere_102 : decode cX5_mothHere 102 = .ok (.invokevirtual 270, 3) := by decide +kernel
theorem dX5_mothHere_105 : decode cX5_mothHere 105 = .ok (.ifCond .eq 7, 3) := by decide +kernel
theorem dX5_mothHere_108 : decode cX5_mothHere 108 = .ok (.iconst 1, 1) := by decide +kernel
theorem dX5_mothHere_109 : decode cX5_mothHere 109 = .ok (.goto 4, 3) := by decide +kernel
theorem dX5_mothHere_112 : decode cX5_mothHere 112 = .ok (.iconst 0, 1) := by decide +kernel
theorem dX5_mothHere_113 : decode cX5_mothHere 113 = .ok (.ireturn, 1) := by decide +kernel
theorem dX5_empties_0 : decode cX5_empties 0 = .ok (.iconst 0, 1) := by decide +kernel
theorem dX5_empties_1 : decode cX5_empties 1 = .ok (.istore_n 2, 1) := by decide +kernel
theorem dX5_empties_2 : decode cX5_empties 2 = .ok (.iload_n 2, 1) := by decide +kernel
theorem dX5_empties_3 : decode cX5_empties 3 = .ok (.bipush 8, 2) := by decide +kernel
theorem dX5_empties_5 : decode cX5_empties 5 = .ok (.if_icmp .ge 23, 3) := by decide +kernel
theorem dX5_empties_8 : decode cX5_empties 8 = .ok (.aload_n 0, 1) := by decide +kernel
theorem dX5_empties_9 : decode cX5_empties 9 = .ok (.getfield 7, 3) := by decide +kernel
theorem dX5_empties_12 : decode cX5_empties 12 = .ok (.iconst 3, 1) := by decide +kernel
theorem dX5_empties_13 : decode cX5_empties 13 = .ok (.bipush 8, 2) := by decide +kernel
theorem dX5_empties_15 : decode cX5_empties 15 = .ok (.iload_n 1, 1) := by decide +kernel
theorem dX5_empties_16 : decode cX5_empties 16 = .ok (.imul, 1) := by decide +kernel
theorem dX5_empties_17 : decode cX5_empties 17 = .ok (.iadd, 1) := by decide +kernel
theorem dX5_empties_18 : decode cX5_empties 18 = .ok (.iload_n 2, 1) := by decide +kernel
theorem dX5_empties_19 : decode cX5_empties 19 = .ok (.iadd, 1) := by decide +kernel
theorem dX5_empties_20 : decode cX5_empties 20 = .ok (.iconst 0, 1) := by decide +kernel
theorem dX5_empties_21 : decode cX5_empties 21 = .ok (.iastore, 1) := by decide +kernel
theorem dX5_empties_22 : decode cX5_empties 22 = .ok (.iinc 2 1, 3) := by decide +kernel
theorem dX5_empties_25 : decode cX5_empties 25 = .ok (.goto (-23), 3) := by decide +kernel
theorem dX5_empties_28 : decode cX5_empties 28 = .ok (.return_, 1) := by decide +kernel
theorem dX5_pageHere_0 : decode cX5_pageHere 0 = .ok (.aload_n 0, 1) := by decide +kernel
theorem dX5_pageHere_1 : decode cX5_pageHere 1 = .ok (.invokevirtual 261, 3) := by decide +kernel
theorem dX5_pageHere_4 : decode cX5_pageHere 4 = .ok (.aload_n 0, 1) := by decide +kernel
theorem dX5_pageHere_5 : decode cX5_pageHere 5 = .ok (.iconst 0, 1) := by decide +kernel
theorem dX5_pageHere_6 : decode cX5_pageHere 6 = .ok (.iconst 5, 1) := by decide +kernel
theorem dX5_pageHere_7 : decode cX5_pageHere 7 = .ok (.invokevirtual 264, 3) := by decide +kernel
theorem dX5_pageHere_10 : decode cX5_pageHere 10 = .ok (.ifCond .ne 5, 3) := by decide +kernel
theorem dX5_pageHere_13 : decode cX5_pageHere 13 = .ok (.iconst 0, 1) := by decide +kernel
theorem dX5_pageHere_14 : decode cX5_pageHere 14 = .ok (.ireturn, 1) := by decide +kernel
theorem dX5_pageHere_15 : decode cX5_pageHere 15 = .ok (.aload_n 0, 1) := by decide +kernel
theorem dX5_pageHere_16 : decode cX5_pageHere 16 = .ok (.getfield 234, 3) := by decide +kernel
theorem dX5_pageHere_19 : decode cX5_pageHere 19 = .ok (.istore_n 1, 1) := by decide +kernel
theorem dX5_pageHere_20 : decode cX5_pageHere 20 = .ok (.aload_n 0, 1) := by decide +kernel
theorem dX5_pageHere_21 : decode cX5_pageHere 21 = .ok (.iload_n 1, 1) := by decide +kernel
theorem dX5_pageHere_22 : decode cX5_pageHere 22 = .ok (.invokevirtual 274, 3) := by decide +kernel
theorem dX5_pageHere_25 : decode cX5_pageHere 25 = .ok (.aload_n 0, 1) := by decide +kernel
theorem dX5_pageHere_26 : decode cX5_pageHere 26 = .ok (.invokevirtual 261, 3) := by decide +kernel
theorem dX5_pageHere_29 : decode cX5_pageHere 29 = .ok (.aload_n 0, 1) := by decide +kernel
theorem dX5_pageHere_30 : decode cX5_pageHere 30 = .ok (.iconst 0, 1) := by decide +kernel
theorem dX5_pageHere_31 : decode cX5_pageHere 31 = .ok (.bipush 9, 2) := by decide +kernel
theorem dX5_pageHere_33 : decode cX5_pageHere 33 = .ok (.invokevirtual 264, 3) := by decide +kernel
theorem dX5_pageHere_36 : decode cX5_pageHere 36 = .ok (.ifCond .ne 5, 3) := by decide +kernel
theorem dX5_pageHere_39 : decode cX5_pageHere 39 = .ok (.iconst 0, 1) := by decide +kernel
theorem dX5_pageHere_40 : decode cX5_pageHere 40 = .ok (.ireturn, 1) := by decide +kernel
theorem dX5_pageHere_41 : decode cX5_pageHere 41 = .ok (.iconst 0, 1) := by decide +kernel
theorem dX5_pageHere_42 : decode cX5_pageHere 42 = .ok (.istore_n 2, 1) := by decide +kernel
theorem dX5_pageHere_43 : decode cX5_pageHere 43 = .ok (.aload_n 0, 1) := by decide +kernel
theorem dX5_pageHere_44 : decode cX5_pageHere 44 = .ok (.getfield 231, 3) := by decide +kernel
theorem dX5_pageHere_47 : decode cX5_pageHere 47 = .ok (.iconst 2, 1) := by decide +kernel
theorem dX5_pageHere_48 : decode cX5_pageHere 48 = .ok (.if_icmp .ne 50, 3) := by decide +kernel
theorem dX5_pageHere_51 : decode cX5_pageHere 51 = .ok (.iload_n 2, 1) := by decide +kernel
theorem dX5_pageHere_52 : decode cX5_pageHere 52 = .ok (.bipush 8, 2) := by decide +kernel
theorem dX5_pageHere_54 : decode cX5_pageHere 54 = .ok (.if_icmp .eq 12, 3) := by decide +kernel
theorem dX5_pageHere_57 : decode cX5_pageHere 57 = .ok (.aload_n 0, 1) := by decide +kernel
theorem dX5_pageHere_58 : decode cX5_pageHere 58 = .ok (.getfield 234, 3) := by decide +kernel
theorem dX5_pageHere_61 : decode cX5_pageHere 61 = .ok (.bipush 9, 2) := by decide +kernel
theorem dX5_pageHere_63 : decode cX5_pageHere 63 = .ok (.if_icmp .le 8, 3) := by decide +kernel
theorem dX5_pageHere_66 : decode cX5_pageHere 66 = .ok (.aload_n 0, 1) := by decide +kernel
theorem dX5_pageHere_67 : decode cX5_pageHere 67 = .ok (.invokevirtual 247, 3) := by decide +kernel
theorem dX5_pageHere_70 : decode cX5_pageHere 70 = .ok (.ireturn, 1) := by decide +kernel
theorem dX5_pageHere_71 : decode cX5_pageHere 71 = .ok (.aload_n 0, 1) := by decide +kernel
theorem dX5_pageHere_72 : decode cX5_pageHere 72 = .ok (.getfield 7, 3) := by decide +kernel
theorem dX5_pageHere_75 : decode cX5_pageHere 75 = .ok (.iconst 3, 1) := by decide +kernel
theorem dX5_pageHere_76 : decode cX5_pageHere 76 = .ok (.bipush 8, 2) := by decide +kernel
theorem dX5_pageHere_78 : decode cX5_pageHere 78 = .ok (.iload_n 1, 1) := by decide +kernel
theorem dX5_pageHere_79 : decode cX5_pageHere 79 = .ok (.imul, 1) := by decide +kernel
theorem dX5_pageHere_80 : decode cX5_pageHere 80 = .ok (.iadd, 1) := by decide +kernel
theorem dX5_pageHere_81 : decode cX5_pageHere 81 = .ok (.iload_n 2, 1) := by decide +kernel
theorem dX5_pageHere_82 : decode cX5_pageHere 82 = .ok (.iadd, 1) := by decide +kernel
theorem dX5_pageHere_83 : decode cX5_pageHere 83 = .ok (.aload_n 0, 1) := by decide +kernel
theorem dX5_pageHere_84 : decode cX5_pageHere 84 = .ok (.getfield 234, 3) := by decide +kernel
theorem dX5_pageHere_87 : decode cX5_pageHere 87 = .ok (.iastore, 1) := by decide +kernel
theorem dX5_pageHere_88 : decode cX5_pageHere 88 = .ok (.iinc 2 1, 3) := by decide +kernel
theorem dX5_pageHere_91 : decode cX5_pageHere 91 = .ok (.aload_n 0, 1) := by decide +kernel
theorem dX5_pageHere_92 : decode cX5_pageHere 92 = .ok (.invokevirtual 261, 3) := by decide +kernel
theorem dX5_pageHere_95 : decode cX5_pageHere 95 = .ok (.goto (-52), 3) := by decide +kernel
theorem dX5_pageHere_98 : decode cX5_pageHere 98 = .ok (.iconst 1, 1) := by decide +kernel
theorem dX5_pageHere_99 : decode cX5_pageHere 99 = .ok (.ireturn, 1) := by decide +kernel
theorem dX5_emptyHere_0 : decode cX5_emptyHere 0 = .ok (.aload_n 0, 1) := by decide +kernel
theorem dX5_emptyHere_1 : decode cX5_emptyHere 1 = .ok (.invokevirtual 261, 3) := by decide +kernel
theorem dX5_emptyHere_4 : decode cX5_emptyHere 4 = .ok (.aload_n 0, 1) := by decide +kernel
theorem dX5_emptyHere_5 : decode cX5_emptyHere 5 = .ok (.iconst 0, 1) := by decide +kernel
theorem dX5_emptyHere_6 : decode cX5_emptyHere 6 = .ok (.iconst 5, 1) := by decide +kernel
theorem dX5_emptyHere_7 : decode cX5_emptyHere 7 = .ok (.invokevirtual 264, 3) := by decide +kernel
theorem dX5_emptyHere_10 : decode cX5_emptyHere 10 = .ok (.ifCond .ne 5, 3) := by decide +kernel
theorem dX5_emptyHere_13 : decode cX5_emptyHere 13 = .ok (.iconst 0, 1) := by decide +kernel
theorem dX5_emptyHere_14 : decode cX5_emptyHere 14 = .ok (.ireturn, 1) := by decide +kernel
theorem dX5_emptyHere_15 : decode cX5_emptyHere 15 = .ok (.aload_n 0, 1) := by decide +kernel
theorem dX5_emptyHere_16 : decode cX5_emptyHere 16 = .ok (.aload_n 0, 1) := by decide +kernel
theorem dX5_emptyHere_17 : decode cX5_emptyHere 17 = .ok (.getfield 234, 3) := by decide +kernel
theorem dX5_emptyHere_20 : decode cX5_emptyHere 20 = .ok (.invokevirtual 274, 3) := by decide +kernel
theorem dX5_emptyHere_23 : decode cX5_emptyHere 23 = .ok (.aload_n 0, 1) := by decide +kernel
theorem dX5_emptyHere_24 : decode cX5_emptyHere 24 = .ok (.invokevirtual 261, 3) := by decide +kernel
theorem dX5_emptyHere_27 : decode cX5_emptyHere 27 = .ok (.iconst 1, 1) := by decide +kernel
theorem dX5_emptyHere_28 : decode cX5_emptyHere 28 = .ok (.ireturn, 1) := by decide +kernel
theorem dX5_itemHere_0 : decode cX5_itemHere 0 = .ok (.aload_n 0, 1) := by decide +kernel
theorem dX5_itemHere_1 : decode cX5_itemHere 1 = .ok (.invokevirtual 277, 3) := by decide +kernel
theorem dX5_itemHere_4 : decode cX5_itemHere 4 = .ok (.istore_n 1, 1) := by decide +kernel
theorem dX5_itemHere_5 : decode cX5_itemHere 5 = .ok (.iload_n 1, 1) := by decide +kernel
theorem dX5_itemHere_6 : decode cX5_itemHere 6 = .ok (.ifCond .lt 9, 3) := by decide +kernel
theorem dX5_itemHere_9 : decode cX5_itemHere 9 = .ok (.aload_n 0, 1) := by decide +kernel
theorem dX5_itemHere_10 : decode cX5_itemHere 10 = .ok (.iload_n 1, 1) := by decide +kernel
theorem dX5_itemHere_11 : decode cX5_itemHere 11 = .ok (.invokevirtual 280, 3) := by decide +kernel
theorem dX5_itemHere_14 : decode cX5_itemHere 14 = .ok (.ireturn, 1) := by decide +kernel
theorem dX5_itemHere_15 : decode cX5_itemHere 15 = .ok (.aload_n 0, 1) := by decide +kernel
theorem dX5_itemHere_16 : decode cX5_itemHere 16 = .ok (.bipush 112, 2) := by decide +kernel
theorem dX5_itemHere_18 : decode cX5_itemHere 18 = .ok (.bipush 97, 2) := by decide +kernel
theorem dX5_itemHere_20 : decode cX5_itemHere 20 = .ok (.bipush 103, 2) := by decide +kernel
theorem dX5_itemHere_22 : decode cX5_itemHere 22 = .ok (.bipush 101, 2) := by decide +kernel
theorem dX5_itemHere_24 : decode cX5_itemHere 24 = .ok (.invokevirtual 250, 3) := by decide +kernel
theorem dX5_itemHere_27 : decode cX5_itemHere 27 = .ok (.ifCond .eq 8, 3) := by decide +kernel
theorem dX5_itemHere_30 : decode cX5_itemHere 30 = .ok (.aload_n 0, 1) := by decide +kernel
theorem dX5_itemHere_31 : decode cX5_itemHere 31 = .ok (.invokevirtual 283, 3) := by decide +kernel
theorem dX5_itemHere_34 : decode cX5_itemHere 34 = .ok (.ireturn, 1) := by decide +kernel
theorem dX5_itemHere_35 : decode cX5_itemHere 35 = .ok (.aload_n 0, 1) := by decide +kernel
theorem dX5_itemHere_36 : decode cX5_itemHere 36 = .ok (.bipush 101, 2) := by decide +kernel
theorem dX5_itemHere_38 : decode cX5_itemHere 38 = .ok (.bipush 109, 2) := by decide +kernel
theorem dX5_itemHere_40 : decode cX5_itemHere 40 = .ok (.bipush 112, 2) := by decide +kernel
theorem dX5_itemHere_42 : decode cX5_itemHere 42 = .ok (.bipush 116, 2) := by decide +kernel
theorem dX5_itemHere_44 : decode cX5_itemHere 44 = .ok (.bipush 121, 2) := by decide +kernel
theorem dX5_itemHere_46 : decode cX5_itemHere 46 = .ok (.invokevirtual 253, 3) := by decide +kernel
theorem dX5_itemHere_49 : decode cX5_itemHere 49 = .ok (.ifCond .eq 10, 3) := by decide +kernel
theorem dX5_itemHere_52 : decode cX5_itemHere 52 = .ok (.aload_n 0, 1) := by decide +kernel
theorem dX5_itemHere_53 : decode cX5_itemHere 53 = .ok (.invokevirtual 286, 3) := by decide +kernel
theorem dX5_itemHere_56 : decode cX5_itemHere 56 = .ok (.goto 7, 3) := by decide +kernel
theorem dX5_itemHere_59 : decode cX5_itemHere 59 = .ok (.aload_n 0, 1) := by decide +kernel
theorem dX5_itemHere_60 : decode cX5_itemHere 60 = .ok (.invokevirtual 247, 3) := by decide +kernel
theorem dX5_itemHere_63 : decode cX5_itemHere 63 = .ok (.ireturn, 1) := by decide +kernel
theorem dX5_text_0 : decode cX5_text 0 = .ok (.aload_n 0, 1) := by decide +kernel
theorem dX5_text_1 : decode cX5_text 1 = .ok (.getfield 7, 3) := by decide +kernel
theorem dX5_text_4 : decode cX5_text 4 = .ok (.aload_n 0, 1) := by decide +kernel
theorem dX5_text_5 : decode cX5_text 5 = .ok (.getfield 16, 3) := by decide +kernel
theorem dX5_text_8 : decode cX5_text 8 = .ok (.invokestatic 160, 3) := by decide +kernel
theorem dX5_text_11 : decode cX5_text 11 = .ok (.aload_n 0, 1) := by decide +kernel
theorem dX5_text_12 : decode cX5_text 12 = .ok (.iconst 0, 1) := by decide +kernel
theorem dX5_text_13 : decode cX5_text 13 = .ok (.putfield 216, 3) := by decide +kernel
theorem dX5_text_16 : decode cX5_text 16 = .ok (.aload_n 0, 1) := by decide +kernel
theorem dX5_text_17 : decode cX5_text 17 = .ok (.invokevirtual 261, 3) := by decide +kernel
theorem dX5_text_20 : decode cX5_text 20 = .ok (.iconst 1, 1) := by decide +kernel
theorem dX5_text_21 : decode cX5_text 21 = .ok (.istore_n 1, 1) := by decide +kernel
theorem dX5_text_22 : decode cX5_text 22 = .ok (.aload_n 0, 1) := by decide +kernel
theorem dX5_text_23 : decode cX5_text 23 = .ok (.invokevirtual 289, 3) := by decide +kernel
theorem dX5_text_26 : decode cX5_text 26 = .ok (.istore_n 2, 1) := by decide +kernel
theorem dX5_text_27 : decode cX5_text 27 = .ok (.iload_n 2, 1) := by decide +kernel
theorem dX5_text_28 : decode cX5_text 28 = .ok (.ifCond .eq 26, 3) := by decide +kernel
theorem dX5_text_31 : decode cX5_text 31 = .ok (.aload_n 0, 1) := by decide +kernel
theorem dX5_text_32 : decode cX5_text 32 = .ok (.getfield 231, 3) := by decide +kernel
theorem dX5_text_35 : decode cX5_text 35 = .ok (.iconst 3, 1) := by decide +kernel
theorem dX5_text_36 : decode cX5_text 36 = .ok (.if_icmp .ne 18, 3) := by decide +kernel
theorem dX5_text_39 : decode cX5_text 39 = .ok (.aload_n 0, 1) := by decide +kernel
theorem dX5_text_40 : decode cX5_text 40 = .ok (.invokevirtual 261, 3) := by decide +kernel
theorem dX5_text_43 : decode cX5_text 43 = .ok (.aload_n 0, 1) := by decide +kernel
theorem dX5_text_44 : decode cX5_text 44 = .ok (.invokevirtual 289, 3) := by decide +kernel
theorem dX5_text_47 : decode cX5_text 47 = .ok (.istore_n 2, 1) := by decide +kernel
theorem dX5_text_48 : decode cX5_text 48 = .ok (.iinc 1 1, 3) := by decide +kernel
theorem dX5_text_51 : decode cX5_text 51 = .ok (.goto (-24), 3) := by decide +kernel
theorem dX5_text_54 : decode cX5_text 54 = .ok (.iload_n 2, 1) := by decide +kernel
theorem dX5_text_55 : decode cX5_text 55 = .ok (.ifCond .eq 21, 3) := by decide +kernel
theorem dX5_text_58 : decode cX5_text 58 = .ok (.aload_n 0, 1) := by decide +kernel
theorem dX5_text_59 : decode cX5_text 59 = .ok (.getfield 231, 3) := by decide +kernel
theorem dX5_text_62 : decode cX5_text 62 = .ok (.ifCond .eq 10, 3) := by decide +kernel
theorem dX5_text_65 : decode cX5_text 65 = .ok (.aload_n 0, 1) := by decide +kernel
theorem dX5_text_66 : decode cX5_text 66 = .ok (.invokevirtual 247, 3) := by decide +kernel
theorem dX5_text_69 : decode cX5_text 69 = .ok (.ifCond .eq 7, 3) := by decide +kernel
theorem dX5_text_72 : decode cX5_text 72 = .ok (.iconst 1, 1) := by decide +kernel
theorem dX5_text_73 : decode cX5_text 73 = .ok (.goto 4, 3) := by decide +kernel
theorem dX5_text_76 : decode cX5_text 76 = .ok (.iconst 0, 1) := by decide +kernel
theorem dX5_text_77 : decode cX5_text 77 = .ok (.istore_n 2, 1) := by decide +kernel
theorem dX5_text_78 : decode cX5_text 78 = .ok (.aload_n 0, 1) := by decide +kernel
theorem dX5_text_79 : decode cX5_text 79 = .ok (.iconst 0, 1) := by decide +kernel
theorem dX5_text_80 : decode cX5_text 80 = .ok (.putfield 212, 3) := by decide +kernel
theorem dX5_text_83 : decode cX5_text 83 = .ok (.iload_n 2, 1) := by decide +kernel
theorem dX5_text_84 : decode cX5_text 84 = .ok (.ifCond .ne 14, 3) := by decide +kernel
theorem dX5_text_87 : decode cX5_text 87 = .ok (.aload_n 0, 1) := by decide +kernel
theorem dX5_text_88 : decode cX5_text 88 = .ok (.getfield 16, 3) := by decide +kernel
theorem dX5_text_91 : decode cX5_text 91 = .ok (.aload_n 0, 1) := by decide +kernel
theorem dX5_text_92 : decode cX5_text 92 = .ok (.getfield 7, 3) := by decide +kernel
theorem dX5_text_95 : decode cX5_text 95 = .ok (.invokestatic 160, 3) := by decide +kernel
theorem dX5_text_98 : decode cX5_text 98 = .ok (.iload_n 2, 1) := by decide +kernel
theorem dX5_text_99 : decode cX5_text 99 = .ok (.ifCond .eq 7, 3) := by decide +kernel
theorem dX5_text_102 : decode cX5_text 102 = .ok (.iload_n 1, 1) := by decide +kernel
theorem dX5_text_103 : decode cX5_text 103 = .ok (.goto 9, 3) := by decide +kernel
theorem dX5_text_106 : decode cX5_text 106 = .ok (.iconst (-1), 1) := by decide +kernel
theorem dX5_text_107 : decode cX5_text 107 = .ok (.aload_n 0, 1) := by decide +kernel
theorem dX5_text_108 : decode cX5_text 108 = .ok (.getfield 237, 3) := by decide +kernel
theorem dX5_text_111 : decode cX5_text 111 = .ok (.isub, 1) := by decide +kernel
theorem dX5_text_112 : decode cX5_text 112 = .ok (.ireturn, 1) := by decide +kernel
theorem dX5_hold_0 : decode cX5_hold 0 = .ok (.iload_n 1, 1) := by decide +kernel
theorem dX5_hold_1 : decode cX5_hold 1 = .ok (.i2l, 1) := by decide +kernel
theorem dX5_hold_2 : decode cX5_hold 2 = .ok (.lconst 0, 1) := by decide +kernel
theorem dX5_hold_3 : decode cX5_hold 3 = .ok (.ldc2_w 54, 3) := by decide +kernel
theorem dX5_hold_6 : decode cX5_hold 6 = .ok (.invokestatic 56, 3) := by decide +kernel
theorem dX5_hold_9 : decode cX5_hold 9 = .ok (.ifCond .eq 16, 3) := by decide +kernel
theorem dX5_hold_12 : decode cX5_hold 12 = .ok (.iload_n 2, 1) := by decide +kernel
theorem dX5_hold_13 : decode cX5_hold 13 = .ok (.iconst (-1), 1) := by decide +kernel
theorem dX5_hold_14 : decode cX5_hold 14 = .ok (.if_icmp .eq 18, 3) := by decide +kernel
theorem dX5_hold_17 : decode cX5_hold 17 = .ok (.aload_n 0, 1) := by decide +kernel
theorem dX5_hold_18 : decode cX5_hold 18 = .ok (.iload_n 2, 1) := by decide +kernel
theorem dX5_hold_19 : decode cX5_hold 19 = .ok (.invokevirtual 112, 3) := by decide +kernel
theorem dX5_hold_22 : decode cX5_hold 22 = .ok (.ifCond .ne 10, 3) := by decide +kernel
theorem dX5_hold_25 : decode cX5_hold 25 = .ok (.aload_n 0, 1) := by decide +kernel
theorem dX5_hold_26 : decode cX5_hold 26 = .ok (.ldc 40, 2) := by decide +kernel
theorem dX5_hold_28 : decode cX5_hold 28 = .ok (.invokevirtual 46, 3) := by decide +kernel
theorem dX5_hold_31 : decode cX5_hold 31 = .ok (.ireturn, 1) := by decide +kernel
theorem dX5_hold_32 : decode cX5_hold 32 = .ok (.aload_n 0, 1) := by decide +kernel
theorem dX5_hold_33 : decode cX5_hold 33 = .ok (.getfield 7, 3) := by decide +kernel
theorem dX5_hold_36 : decode cX5_hold 36 = .ok (.bipush 83, 2) := by decide +kernel
theorem dX5_hold_38 : decode cX5_hold 38 = .ok (.iload_n 1, 1) := by decide +kernel
theorem dX5_hold_39 : decode cX5_hold 39 = .ok (.iadd, 1) := by decide +kernel
theorem dX5_hold_40 : decode cX5_hold 40 = .ok (.iload_n 2, 1) := by decide +kernel
theorem dX5_hold_41 : decode cX5_hold 41 = .ok (.iastore, 1) := by decide +kernel
theorem dX5_hold_42 : decode cX5_hold 42 = .ok (.iconst 1, 1) := by decide +kernel
theorem dX5_hold_43 : decode cX5_hold 43 = .ok (.ireturn, 1) := by decide +kernel
theorem dX5_isUnder_0 : decode cX5_isUnder 0 = .ok (.iload_n 1, 1) := by decide +kernel
theorem dX5_isUnder_1 : decode cX5_isUnder 1 = .ok (.ifCond .eq 44, 3) := by decide +kernel
theorem dX5_isUnder_4 : decode cX5_isUnder 4 = .ok (.iload_n 0, 1) := by decide +kernel
theorem dX5_isUnder_5 : decode cX5_isUnder 5 = .ok (.iload_n 1, 1) := by decide +kernel
theorem dX5_isUnder_6 : decode cX5_isUnder 6 = .ok (.if_icmp .eq 39, 3) := by decide +kernel
theorem dX5_isUnder_9 : decode cX5_isUnder 9 = .ok (.iload_n 1, 1) := by decide +kernel
theorem dX5_isUnder_10 : decode cX5_isUnder 10 = .ok (.iconst 2, 1) := by decide +kernel
theorem dX5_isUnder_11 : decode cX5_isUnder 11 = .ok (.if_icmp .ne 13, 3) := by decide +kernel
theorem dX5_isUnder_14 : decode cX5_isUnder 14 = .ok (.iload_n 0, 1) := by decide +kernel
theorem dX5_isUnder_15 : decode cX5_isUnder 15 = .ok (.iconst 3, 1) := by decide +kernel
theorem dX5_isUnder_16 : decode cX5_isUnder 16 = .ok (.if_icmp .eq 29, 3) := by decide +kernel
theorem dX5_isUnder_19 : decode cX5_isUnder 19 = .ok (.iload_n 0, 1) := by decide +kernel
theorem dX5_isUnder_20 : decode cX5_isUnder 20 = .ok (.iconst 4, 1) := by decide +kernel
theorem dX5_isUnder_21 : decode cX5_isUnder 21 = .ok (.if_icmp .eq 24, 3) := by decide +kernel
theorem dX5_isUnder_24 : decode cX5_isUnder 24 = .ok (.iload_n 1, 1) := by decide +kernel
theorem dX5_isUnder_25 : decode cX5_isUnder 25 = .ok (.iconst 3, 1) := by decide +kernel
theorem dX5_isUnder_26 : decode cX5_isUnder 26 = .ok (.if_icmp .ne 8, 3) := by decide +kernel
theorem dX5_isUnder_29 : decode cX5_isUnder 29 = .ok (.iload_n 0, 1) := by decide +kernel
theorem dX5_isUnder_30 : decode cX5_isUnder 30 = .ok (.iconst 4, 1) := by decide +kernel
theorem dX5_isUnder_31 : decode cX5_isUnder 31 = .ok (.if_icmp .eq 14, 3) := by decide +kernel
theorem dX5_isUnder_34 : decode cX5_isUnder 34 = .ok (.iload_n 1, 1) := by decide +kernel
theorem dX5_isUnder_35 : decode cX5_isUnder 35 = .ok (.iconst 1, 1) := by decide +kernel
theorem dX5_isUnder_36 : decode cX5_isUnder 36 = .ok (.if_icmp .ne 13, 3) := by decide +kernel
theorem dX5_isUnder_39 : decode cX5_isUnder 39 = .ok (.iload_n 0, 1) := by decide +kernel
theorem dX5_isUnder_40 : decode cX5_isUnder 40 = .ok (.bipush 6, 2) := by decide +kernel
theorem dX5_isUnder_42 : decode cX5_isUnder 42 = .ok (.if_icmp .ne 7, 3) := by decide +kernel
theorem dX5_isUnder_45 : decode cX5_isUnder 45 = .ok (.iconst 1, 1) := by decide +kernel
theorem dX5_isUnder_46 : decode cX5_isUnder 46 = .ok (.goto 4, 3) := by decide +kernel
theorem dX5_isUnder_49 : decode cX5_isUnder 49 = .ok (.iconst 0, 1) := by decide +kernel
theorem dX5_isUnder_50 : decode cX5_isUnder 50 = .ok (.ireturn, 1) := by decide +kernel
theorem dX5_as_0 : decode cX5_as 0 = .ok (.iload_n 1, 1) := by decide +kernel
theorem dX5_as_1 : decode cX5_as 1 = .ok (.i2l, 1) := by decide +kernel
theorem dX5_as_2 : decode cX5_as 2 = .ok (.lconst 0, 1) := by decide +kernel
theorem dX5_as_3 : decode cX5_as 3 = .ok (.ldc2_w 54, 3) := by decide +kernel
theorem dX5_as_6 : decode cX5_as 6 = .ok (.invokestatic 56, 3) := by decide +kernel
theorem dX5_as_9 : decode cX5_as 9 = .ok (.ifCond .eq 15, 3) := by decide +kernel
theorem dX5_as_12 : decode cX5_as 12 = .ok (.iload_n 2, 1) := by decide +kernel
theorem dX5_as_13 : decode cX5_as 13 = .ok (.i2l, 1) := by decide +kernel
theorem dX5_as_14 : decode cX5_as 14 = .ok (.lconst 0, 1) := by decide +kernel
theorem dX5_as_15 : decode cX5_as 15 = .ok (.ldc2_w 87, 3) := by decide +kernel
theorem dX5_as_18 : decode cX5_as 18 = .ok (.invokestatic 56, 3) := by decide +kernel
theorem dX5_as_21 : decode cX5_as 21 = .ok (.ifCond .ne 10, 3) := by decide +kernel
theorem dX5_as_24 : decode cX5_as 24 = .ok (.aload_n 0, 1) := by decide +kernel
theorem dX5_as_25 : decode cX5_as 25 = .ok (.ldc 40, 2) := by decide +kernel
theorem dX5_as_27 : decode cX5_as 27 = .ok (.invokevirtual 46, 3) := by decide +kernel
theorem dX5_as_30 : decode cX5_as 30 = .ok (.ireturn, 1) := by decide +kernel
theorem dX5_as_31 : decode cX5_as 31 = .ok (.aload_n 0, 1) := by decide +kernel
theorem dX5_as_32 : decode cX5_as 32 = .ok (.getfield 7, 3) := by decide +kernel
theorem dX5_as_35 : decode cX5_as 35 = .ok (.bipush 83, 2) := by decide +kernel
theorem dX5_as_37 : decode cX5_as 37 = .ok (.iload_n 1, 1) := by decide +kernel
theorem dX5_as_38 : decode cX5_as 38 = .ok (.iadd, 1) := by decide +kernel
theorem dX5_as_39 : decode cX5_as 39 = .ok (.iaload, 1) := by decide +kernel
theorem dX5_as_40 : decode cX5_as 40 = .ok (.istore_n 3, 1) := by decide +kernel
theorem dX5_as_41 : decode cX5_as 41 = .ok (.iload_n 3, 1) := by decide +kernel
theorem dX5_as_42 : decode cX5_as 42 = .ok (.ifCond .ge 11, 3) := by decide +kernel
theorem dX5_as_45 : decode cX5_as 45 = .ok (.aload_n 0, 1) := by decide +kernel
theorem dX5_as_46 : decode cX5_as 46 = .ok (.ldc_w 292, 3) := by decide +kernel
theorem dX5_as_49 : decode cX5_as 49 = .ok (.invokevirtual 46, 3) := by decide +kernel
theorem dX5_as_52 : decode cX5_as 52 = .ok (.ireturn, 1) := by decide +kernel
theorem dX5_as_53 : decode cX5_as 53 = .ok (.aload_n 0, 1) := by decide +kernel
theorem dX5_as_54 : decode cX5_as 54 = .ok (.iload_n 3, 1) := by decide +kernel
theorem dX5_as_55 : decode cX5_as 55 = .ok (.iconst 0, 1) := by decide +kernel
theorem dX5_as_56 : decode cX5_as 56 = .ok (.invokevirtual 67, 3) := by decide +kernel
theorem dX5_as_59 : decode cX5_as 59 = .ok (.iload_n 2, 1) := by decide +kernel
theorem dX5_as_60 : decode cX5_as 60 = .ok (.invokestatic 293, 3) := by decide +kernel
theorem dX5_as_63 : decode cX5_as 63 = .ok (.ifCond .eq 7, 3) := by decide +kernel
theorem dX5_as_66 : decode cX5_as 66 = .ok (.iload_n 3, 1) := by decide +kernel
theorem dX5_as_67 : decode cX5_as 67 = .ok (.goto 10, 3) := by decide +kernel
theorem dX5_as_70 : decode cX5_as 70 = .ok (.aload_n 0, 1) := by decide +kernel
theorem dX5_as_71 : decode cX5_as 71 = .ok (.ldc_w 296, 3) := by decide +kernel
theorem dX5_as_74 : decode cX5_as 74 = .ok (.invokevirtual 46, 3) := by decide +kernel
theorem dX5_as_77 : decode cX5_as 77 = .ok (.ireturn, 1) := by decide +kernel
theorem dX5_isSheet_0 : decode cX5_isSheet 0 = .ok (.iload_n 0, 1) := by decide +kernel
theorem dX5_isSheet_1 : decode cX5_isSheet 1 = .ok (.ifCond .lt 12, 3) := by decide +kernel
theorem dX5_isSheet_4 : decode cX5_isSheet 4 = .ok (.iload_n 0, 1) := by decide +kernel
theorem dX5_isSheet_5 : decode cX5_isSheet 5 = .ok (.iconst 4, 1) := by decide +kernel
theorem dX5_isSheet_6 : decode cX5_isSheet 6 = .ok (.if_icmp .ge 7, 3) := by decide +kernel
theorem dX5_isSheet_9 : decode cX5_isSheet 9 = .ok (.iconst 1, 1) := by decide +kernel
theorem dX5_isSheet_10 : decode cX5_isSheet 10 = .ok (.goto 4, 3) := by decide +kernel
theorem dX5_isSheet_13 : decode cX5_isSheet 13 = .ok (.iconst 0, 1) := by decide +kernel
theorem dX5_isSheet_14 : decode cX5_isSheet 14 = .ok (.ireturn, 1) := by decide +kernel
theorem dX5_sheet_0 : decode cX5_sheet 0 = .ok (.iload_n 1, 1) := by decide +kernel
theorem dX5_sheet_1 : decode cX5_sheet 1 = .ok (.invokestatic 297, 3) := by decide +kernel
theorem dX5_sheet_4 : decode cX5_sheet 4 = .ok (.ifCond .eq 25, 3) := by decide +kernel
theorem dX5_sheet_7 : decode cX5_sheet 7 = .ok (.iload_n 2, 1) := by decide +kernel
theorem dX5_sheet_8 : decode cX5_sheet 8 = .ok (.ifCond .eq 28, 3) := by decide +kernel
theorem dX5_sheet_11 : decode cX5_sheet 11 = .ok (.iload_n 2, 1) := by decide +kernel
theorem dX5_sheet_12 : decode cX5_sheet 12 = .ok (.bipush 8, 2) := by decide +kernel
theorem dX5_sheet_14 : decode cX5_sheet 14 = .ok (.if_icmp .eq 22, 3) := by decide +kernel
theorem dX5_sheet_17 : decode cX5_sheet 17 = .ok (.iload_n 2, 1) := by decide +kernel
theorem dX5_sheet_18 : decode cX5_sheet 18 = .ok (.bipush 16, 2) := by decide +kernel
theorem dX5_sheet_20 : decode cX5_sheet 20 = .ok (.if_icmp .eq 16, 3) := by decide +kernel
theorem dX5_sheet_23 : decode cX5_sheet 23 = .ok (.iload_n 2, 1) := by decide +kernel
theorem dX5_sheet_24 : decode cX5_sheet 24 = .ok (.bipush 32, 2) := by decide +kernel
theorem dX5_sheet_26 : decode cX5_sheet 26 = .ok (.if_icmp .eq 10, 3) := by decide +kernel
theorem dX5_sheet_29 : decode cX5_sheet 29 = .ok (.aload_n 0, 1) := by decide +kernel
theorem dX5_sheet_30 : decode cX5_sheet 30 = .ok (.ldc 40, 2) := by decide +kernel
theorem dX5_sheet_32 : decode cX5_sheet 32 = .ok (.invokevirtual 46, 3) := by decide +kernel
theorem dX5_sheet_35 : decode cX5_sheet 35 = .ok (.ireturn, 1) := by decide +kernel
theorem dX5_sheet_36 : decode cX5_sheet 36 = .ok (.iload_n 3, 1) := by decide +kernel
theorem dX5_sheet_37 : decode cX5_sheet 37 = .ok (.ifCond .ge 11, 3) := by decide +kernel
theorem dX5_sheet_40 : decode cX5_sheet 40 = .ok (.aload_n 0, 1) := by decide +kernel
theorem dX5_sheet_41 : decode cX5_sheet 41 = .ok (.ldc_w 300, 3) := by decide +kernel
theorem dX5_sheet_44 : decode cX5_sheet 44 = .ok (.invokevirtual 46, 3) := by decide +kernel
theorem dX5_sheet_47 : decode cX5_sheet 47 = .ok (.ireturn, 1) := by decide +kernel
theorem dX5_sheet_48 : decode cX5_sheet 48 = .ok (.iload_n 3, 1) := by decide +kernel
theorem dX5_sheet_49 : decode cX5_sheet 49 = .ok (.bipush 40, 2) := by decide +kernel
theorem dX5_sheet_51 : decode cX5_sheet 51 = .ok (.if_icmp .le 10, 3) := by decide +kernel
theorem dX5_sheet_54 : decode cX5_sheet 54 = .ok (.aload_n 0, 1) := by decide +kernel
theorem dX5_sheet_55 : decode cX5_sheet 55 = .ok (.ldc 40, 2) := by decide +kernel
theorem dX5_sheet_57 : decode cX5_sheet 57 = .ok (.invokevirtual 46, 3) := by decide +kernel
theorem dX5_sheet_60 : decode cX5_sheet 60 = .ok (.ireturn, 1) := by decide +kernel
theorem dX5_sheet_61 : decode cX5_sheet 61 = .ok (.aload_n 0, 1) := by decide +kernel
theorem dX5_sheet_62 : decode cX5_sheet 62 = .ok (.getfield 28, 3) := by decide +kernel
theorem dX5_sheet_65 : decode cX5_sheet 65 = .ok (.iload_n 1, 1) := by decide +kernel
theorem dX5_sheet_66 : decode cX5_sheet 66 = .ok (.iload_n 2, 1) := by decide +kernel
theorem dX5_sheet_67 : decode cX5_sheet 67 = .ok (.ifCond .ne 7, 3) := by decide +kernel
theorem dX5_sheet_70 : decode cX5_sheet 70 = .ok (.iconst (-1), 1) := by decide +kernel
theorem dX5_sheet_71 : decode cX5_sheet 71 = .ok (.goto 4, 3) := by decide +kernel
theorem dX5_sheet_74 : decode cX5_sheet 74 = .ok (.iload_n 2, 1) := by decide +kernel
theorem dX5_sheet_75 : decode cX5_sheet 75 = .ok (.iastore, 1) := by decide +kernel
theorem dX5_sheet_76 : decode cX5_sheet 76 = .ok (.aload_n 0, 1) := by decide +kernel
theorem dX5_sheet_77 : decode cX5_sheet 77 = .ok (.getfield 31, 3) := by decide +kernel
theorem dX5_sheet_80 : decode cX5_sheet 80 = .ok (.iload_n 1, 1) := by decide +kernel
theorem dX5_sheet_81 : decode cX5_sheet 81 = .ok (.iload_n 2, 1) := by decide +kernel
theorem dX5_sheet_82 : decode cX5_sheet 82 = .ok (.ifCond .ne 7, 3) := by decide +kernel
theorem dX5_sheet_85 : decode cX5_sheet 85 = .ok (.iconst 0, 1) := by decide +kernel
theorem dX5_sheet_86 : decode cX5_sheet 86 = .ok (.goto 4, 3) := by decide +kernel
theorem dX5_sheet_89 : decode cX5_sheet 89 = .ok (.iload_n 3, 1) := by decide +kernel
theorem dX5_sheet_90 : decode cX5_sheet 90 = .ok (.iastore, 1) := by decide +kernel
theorem dX5_sheet_91 : decode cX5_sheet 91 = .ok (.iconst 0, 1) := by decide +kernel
theorem dX5_sheet_92 : decode cX5_sheet 92 = .ok (.istore 4, 2) := by decide +kernel
theorem dX5_sheet_94 : decode cX5_sheet 94 = .ok (.iload 4, 2) := by decide +kernel
theorem dX5_sheet_96 : decode cX5_sheet 96 = .ok (.bipush 40, 2) := by decide +kernel
theorem dX5_sheet_98 : decode cX5_sheet 98 = .ok (.if_icmp .ge 22, 3) := by decide +kernel
theorem dX5_sheet_101 : decode cX5_sheet 101 = .ok (.aload_n 0, 1) := by decide +kernel
theorem dX5_sheet_102 : decode cX5_sheet 102 = .ok (.getfield 34, 3) := by decide +kernel
theorem dX5_sheet_105 : decode cX5_sheet 105 = .ok (.bipush 40, 2) := by decide +kernel
theorem dX5_sheet_107 : decode cX5_sheet 107 = .ok (.iload_n 1, 1) := by decide +kernel
theorem dX5_sheet_108 : decode cX5_sheet 108 = .ok (.imul, 1) := by decide +kernel
theorem dX5_sheet_109 : decode cX5_sheet 109 = .ok (.iload 4, 2) := by decide +kernel
theorem dX5_sheet_111 : decode cX5_sheet 111 = .ok (.iadd, 1) := by decide +kernel
theorem dX5_sheet_112 : decode cX5_sheet 112 = .ok (.iconst 0, 1) := by decide +kernel
theorem dX5_sheet_113 : decode cX5_sheet 113 = .ok (.iastore, 1) := by decide +kernel
theorem dX5_sheet_114 : decode cX5_sheet 114 = .ok (.iinc 4 1, 3) := by decide +kernel
theorem dX5_sheet_117 : decode cX5_sheet 117 = .ok (.goto (-23), 3) := by decide +kernel
theorem dX5_sheet_120 : decode cX5_sheet 120 = .ok (.aload_n 0, 1) := by decide +kernel
theorem dX5_sheet_121 : decode cX5_sheet 121 = .ok (.getfield 31, 3) := by decide +kernel
theorem dX5_sheet_124 : decode cX5_sheet 124 = .ok (.iload_n 1, 1) := by decide +kernel
theorem dX5_sheet_125 : decode cX5_sheet 125 = .ok (.iaload, 1) := by decide +kernel
theorem dX5_sheet_126 : decode cX5_sheet 126 = .ok (.ireturn, 1) := by decide +kernel
theorem dX5_write_0 : decode cX5_write 0 = .ok (.iload_n 1, 1) := by decide +kernel
theorem dX5_write_1 : decode cX5_write 1 = .ok (.invokestatic 297, 3) := by decide +kernel
theorem dX5_write_4 : decode cX5_write 4 = .ok (.ifCond .ne 10, 3) := by decide +kernel
theorem dX5_write_7 : decode cX5_write 7 = .ok (.aload_n 0, 1) := by decide +kernel
theorem dX5_write_8 : decode cX5_write 8 = .ok (.ldc 40, 2) := by decide +kernel
theorem dX5_write_10 : decode cX5_write 10 = .ok (.invokevirtual 46, 3) := by decide +kernel
theorem dX5_write_13 : decode cX5_write 13 = .ok (.ireturn, 1) := by decide +kernel
theorem dX5_write_14 : decode cX5_write 14 = .ok (.aload_n 0, 1) := by decide +kernel
theorem dX5_write_15 : decode cX5_write 15 = .ok (.getfield 28, 3) := by decide +kernel
theorem dX5_write_18 : decode cX5_write 18 = .ok (.iload_n 1, 1) := by decide +kernel
theorem dX5_write_19 : decode cX5_write 19 = .ok (.iaload, 1) := by decide +kernel
theorem dX5_write_20 : decode cX5_write 20 = .ok (.ifCond .ge 11, 3) := by decide +kernel
theorem dX5_write_23 : decode cX5_write 23 = .ok (.aload_n 0, 1) := by decide +kernel
theorem dX5_write_24 : decode cX5_write 24 = .ok (.ldc_w 292, 3) := by decide +kernel
theorem dX5_write_27 : decode cX5_write 27 = .ok (.invokevirtual 46, 3) := by decide +kernel
theorem dX5_write_30 : decode cX5_write 30 = .ok (.ireturn, 1) := by decide +kernel
theorem dX5_write_31 : decode cX5_write 31 = .ok (.iload_n 2, 1) := by decide +kernel
theorem dX5_write_32 : decode cX5_write 32 = .ok (.i2l, 1) := by decide +kernel
theorem dX5_write_33 : decode cX5_write 33 = .ok (.lconst 0, 1) := by decide +kernel
theorem dX5_write_34 : decode cX5_write 34 = .ok (.aload_n 0, 1) := by decide +kernel
theorem dX5_write_35 : decode cX5_write 35 = .ok (.getfield 31, 3) := by decide +kernel
theorem dX5_write_38 : decode cX5_write 38 = .ok (.iload_n 1, 1) := by decide +kernel
theorem dX5_write_39 : decode cX5_write 39 = .ok (.iaload, 1) := by decide +kernel
theorem dX5_write_40 : decode cX5_write 40 = .ok (.iconst 1, 1) := by decide +kernel
theorem dX5_write_41 : decode cX5_write 41 = .ok (.isub, 1) := by decide +kernel
theorem dX5_write_42 : decode cX5_write 42 = .ok (.i2l, 1) := by decide +kernel
theorem dX5_write_43 : decode cX5_write 43 = .ok (.invokestatic 56, 3) := by decide +kernel
theorem dX5_write_46 : decode cX5_write 46 = .ok (.ifCond .ne 10, 3) := by decide +kernel
theorem dX5_write_49 : decode cX5_write 49 = .ok (.aload_n 0, 1) := by decide +kernel
theorem dX5_write_50 : decode cX5_write 50 = .ok (.ldc 40, 2) := by decide +kernel
theorem dX5_write_52 : decode cX5_write 52 = .ok (.invokevirtual 46, 3) := by decide +kernel
theorem dX5_write_55 : decode cX5_write 55 = .ok (.ireturn, 1) := by decide +kernel
theorem dX5_write_56 : decode cX5_write 56 = .ok (.aload_n 0, 1) := by decide +kernel
theorem dX5_write_57 : decode cX5_write 57 = .ok (.getfield 34, 3) := by decide +kernel
theorem dX5_write_60 : decode cX5_write 60 = .ok (.bipush 40, 2) := by decide +kernel
theorem dX5_write_62 : decode cX5_write 62 = .ok (.iload_n 1, 1) := by decide +kernel
theorem dX5_write_63 : decode cX5_write 63 = .ok (.imul, 1) := by decide +kernel
theorem dX5_write_64 : decode cX5_write 64 = .ok (.iload_n 2, 1) := by decide +kernel
theorem dX5_write_65 : decode cX5_write 65 = .ok (.iadd, 1) := by decide +kernel
theorem dX5_write_66 : decode cX5_write 66 = .ok (.aload_n 0, 1) := by decide +kernel
theorem dX5_write_67 : decode cX5_write 67 = .ok (.getfield 28, 3) := by decide +kernel
theorem dX5_write_70 : decode cX5_write 70 = .ok (.iload_n 1, 1) := by decide +kernel
theorem dX5_write_71 : decode cX5_write 71 = .ok (.iaload, 1) := by decide +kernel
theorem dX5_write_72 : decode cX5_write 72 = .ok (.bipush 8, 2) := by decide +kernel
theorem dX5_write_74 : decode cX5_write 74 = .ok (.if_icmp .ne 8, 3) := by decide +kernel
theorem dX5_write_77 : decode cX5_write 77 = .ok (.iload_n 3, 1) := by decide +kernel
theorem dX5_write_78 : decode cX5_write 78 = .ok (.i2b, 1) := by decide +kernel
theorem dX5_write_79 : decode cX5_write 79 = .ok (.goto 20, 3) := by decide +kernel
theorem dX5_write_82 : decode cX5_write 82 = .ok (.aload_n 0, 1) := by decide +kernel
theorem dX5_write_83 : decode cX5_write 83 = .ok (.getfield 28, 3) := by decide +kernel
theorem dX5_write_86 : decode cX5_write 86 = .ok (.iload_n 1, 1) := by decide +kernel
theorem dX5_write_87 : decode cX5_write 87 = .ok (.iaload, 1) := by decide +kernel
theorem dX5_write_88 : decode cX5_write 88 = .ok (.bipush 16, 2) := by decide +kernel
theorem dX5_write_90 : decode cX5_write 90 = .ok (.if_icmp .ne 8, 3) := by decide +kernel
theorem dX5_write_93 : decode cX5_write 93 = .ok (.iload_n 3, 1) := by decide +kernel
theorem dX5_write_94 : decode cX5_write 94 = .ok (.i2s, 1) := by decide +kernel
theorem dX5_write_95 : decode cX5_write 95 = .ok (.goto 4, 3) := by decide +kernel
theorem dX5_write_98 : decode cX5_write 98 = .ok (.iload_n 3, 1) := by decide +kernel
theorem dX5_write_99 : decode cX5_write 99 = .ok (.iastore, 1) := by decide +kernel
theorem dX5_write_100 : decode cX5_write 100 = .ok (.iconst 1, 1) := by decide +kernel
theorem dX5_write_101 : decode cX5_write 101 = .ok (.ireturn, 1) := by decide +kernel
theorem dX5_copy_0 : decode cX5_copy 0 = .ok (.iload_n 1, 1) := by decide +kernel
theorem dX5_copy_1 : decode cX5_copy 1 = .ok (.invokestatic 297, 3) := by decide +kernel
theorem dX5_copy_4 : decode cX5_copy 4 = .ok (.ifCond .eq 10, 3) := by decide +kernel
theorem dX5_copy_7 : decode cX5_copy 7 = .ok (.iload_n 3, 1) := by decide +kernel
theorem dX5_copy_8 : decode cX5_copy 8 = .ok (.invokestatic 297, 3) := by decide +kernel
theorem dX5_copy_11 : decode cX5_copy 11 = .ok (.ifCond .ne 10, 3) := by decide +kernel
theorem dX5_copy_14 : decode cX5_copy 14 = .ok (.aload_n 0, 1) := by decide +kernel
theorem dX5_copy_15 : decode cX5_copy 15 = .ok (.ldc 40, 2) := by decide +kernel
theorem dX5_copy_17 : decode cX5_copy 17 = .ok (.invokevirtual 46, 3) := by decide +kernel
theorem dX5_copy_20 : decode cX5_copy 20 = .ok (.ireturn, 1) := by decide +kernel
theorem dX5_copy_21 : decode cX5_copy 21 = .ok (.aload_n 0, 1) := by decide +kernel
theorem dX5_copy_22 : decode cX5_copy 22 = .ok (.getfield 28, 3) := by decide +kernel
theorem dX5_copy_25 : decode cX5_copy 25 = .ok (.iload_n 1, 1) := by decide +kernel
theorem dX5_copy_26 : decode cX5_copy 26 = .ok (.iaload, 1) := by decide +kernel
theorem dX5_copy_27 : decode cX5_copy 27 = .ok (.ifCond .lt 12, 3) := by decide +kernel
theorem dX5_copy_30 : decode cX5_copy 30 = .ok (.aload_n 0, 1) := by decide +kernel
theorem dX5_copy_31 : decode cX5_copy 31 = .ok (.getfield 28, 3) := by decide +kernel
theorem dX5_copy_34 : decode cX5_copy 34 = .ok (.iload_n 3, 1) := by decide +kernel
theorem dX5_copy_35 : decode cX5_copy 35 = .ok (.iaload, 1) := by decide +kernel
theorem dX5_copy_36 : decode cX5_copy 36 = .ok (.ifCond .ge 11, 3) := by decide +kernel
theorem dX5_copy_39 : decode cX5_copy 39 = .ok (.aload_n 0, 1) := by decide +kernel
theorem dX5_copy_40 : decode cX5_copy 40 = .ok (.ldc_w 292, 3) := by decide +kernel
theorem dX5_copy_43 : decode cX5_copy 43 = .ok (.invokevirtual 46, 3) := by decide +kernel
theorem dX5_copy_46 : decode cX5_copy 46 = .ok (.ireturn, 1) := by decide +kernel
theorem dX5_copy_47 : decode cX5_copy 47 = .ok (.aload_n 0, 1) := by decide +kernel
theorem dX5_copy_48 : decode cX5_copy 48 = .ok (.getfield 28, 3) := by decide +kernel
theorem dX5_copy_51 : decode cX5_copy 51 = .ok (.iload_n 1, 1) := by decide +kernel
theorem dX5_copy_52 : decode cX5_copy 52 = .ok (.iaload, 1) := by decide +kernel
theorem dX5_copy_53 : decode cX5_copy 53 = .ok (.aload_n 0, 1) := by decide +kernel
theorem dX5_copy_54 : decode cX5_copy 54 = .ok (.getfield 28, 3) := by decide +kernel
theorem dX5_copy_57 : decode cX5_copy 57 = .ok (.iload_n 3, 1) := by decide +kernel
theorem dX5_copy_58 : decode cX5_copy 58 = .ok (.iaload, 1) := by decide +kernel
theorem dX5_copy_59 : decode cX5_copy 59 = .ok (.if_icmp .eq 11, 3) := by decide +kernel
theorem dX5_copy_62 : decode cX5_copy 62 = .ok (.aload_n 0, 1) := by decide +kernel
theorem dX5_copy_63 : decode cX5_copy 63 = .ok (.ldc_w 296, 3) := by decide +kernel
theorem dX5_copy_66 : decode cX5_copy 66 = .ok (.invokevirtual 46, 3) := by decide +kernel
theorem dX5_copy_69 : decode cX5_copy 69 = .ok (.ireturn, 1) := by decide +kernel
theorem dX5_copy_70 : decode cX5_copy 70 = .ok (.iload_n 2, 1) := by decide +kernel
theorem dX5_copy_71 : decode cX5_copy 71 = .ok (.ifCond .lt 40, 3) := by decide +kernel
theorem dX5_copy_74 : decode cX5_copy 74 = .ok (.iload 4, 2) := by decide +kernel
theorem dX5_copy_76 : decode cX5_copy 76 = .ok (.ifCond .lt 35, 3) := by decide +kernel
theorem dX5_copy_79 : decode cX5_copy 79 = .ok (.iload 5, 2) := by decide +kernel
theorem dX5_copy_81 : decode cX5_copy 81 = .ok (.ifCond .lt 30, 3) := by decide +kernel
theorem dX5_copy_84 : decode cX5_copy 84 = .ok (.iload 5, 2) := by decide +kernel
theorem dX5_copy_86 : decode cX5_copy 86 = .ok (.aload_n 0, 1) := by decide +kernel
theorem dX5_copy_87 : decode cX5_copy 87 = .ok (.getfield 31, 3) := by decide +kernel
theorem dX5_copy_90 : decode cX5_copy 90 = .ok (.iload_n 1, 1) := by decide +kernel
theorem dX5_copy_91 : decode cX5_copy 91 = .ok (.iaload, 1) := by decide +kernel
theorem dX5_copy_92 : decode cX5_copy 92 = .ok (.iload_n 2, 1) := by decide +kernel
theorem dX5_copy_93 : decode cX5_copy 93 = .ok (.isub, 1) := by decide +kernel
theorem dX5_copy_94 : decode cX5_copy 94 = .ok (.if_icmp .gt 17, 3) := by decide +kernel
theorem dX5_copy_97 : decode cX5_copy 97 = .ok (.iload 5, 2) := by decide +kernel
theorem dX5_copy_99 : decode cX5_copy 99 = .ok (.aload_n 0, 1) := by decide +kernel
theorem dX5_copy_100 : decode cX5_copy 100 = .ok (.getfield 31, 3) := by decide +kernel
theorem dX5_copy_103 : decode cX5_copy 103 = .ok (.iload_n 3, 1) := by decide +kernel
theorem dX5_copy_104 : decode cX5_copy 104 = .ok (.iaload, 1) := by decide +kernel
theorem dX5_copy_105 : decode cX5_copy 105 = .ok (.iload 4, 2) := by decide +kernel
theorem dX5_copy_107 : decode cX5_copy 107 = .ok (.isub, 1) := by decide +kernel
theorem dX5_copy_108 : decode cX5_copy 108 = .ok (.if_icmp .le 10, 3) := by decide +kernel
theorem dX5_copy_111 : decode cX5_copy 111 = .ok (.aload_n 0, 1) := by decide +kernel
theorem dX5_copy_112 : decode cX5_copy 112 = .ok (.ldc 40, 2) := by decide +kernel
theorem dX5_copy_114 : decode cX5_copy 114 = .ok (.invokevirtual 46, 3) := by decide +kernel
theorem dX5_copy_117 : decode cX5_copy 117 = .ok (.ireturn, 1) := by decide +kernel
theorem dX5_copy_118 : decode cX5_copy 118 = .ok (.bipush 40, 2) := by decide +kernel
theorem dX5_copy_120 : decode cX5_copy 120 = .ok (.iload_n 1, 1) := by decide +kernel
theorem dX5_copy_121 : decode cX5_copy 121 = .ok (.imul, 1) := by decide +kernel
theorem dX5_copy_122 : decode cX5_copy 122 = .ok (.iload_n 2, 1) := by decide +kernel
theorem dX5_copy_123 : decode cX5_copy 123 = .ok (.iadd, 1) := by decide +kernel
theorem dX5_copy_124 : decode cX5_copy 124 = .ok (.istore 6, 2) := by decide +kernel
theorem dX5_copy_126 : decode cX5_copy 126 = .ok (.bipush 40, 2) := by decide +kernel
theorem dX5_copy_128 : decode cX5_copy 128 = .ok (.iload_n 3, 1) := by decide +kernel
theorem dX5_copy_129 : decode cX5_copy 129 = .ok (.imul, 1) := by decide +kernel
theorem dX5_copy_130 : decode cX5_copy 130 = .ok (.iload 4, 2) := by decide +kernel
theorem dX5_copy_132 : decode cX5_copy 132 = .ok (.iadd, 1) := by decide +kernel
theorem dX5_copy_133 : decode cX5_copy 133 = .ok (.istore 7, 2) := by decide +kernel
theorem dX5_copy_135 : decode cX5_copy 135 = .ok (.iconst 0, 1) := by decide +kernel
theorem dX5_copy_136 : decode cX5_copy 136 = .ok (.istore 8, 2) := by decide +kernel
theorem dX5_copy_138 : decode cX5_copy 138 = .ok (.iload 8, 2) := by decide +kernel
theorem dX5_copy_140 : decode cX5_copy 140 = .ok (.iload 5, 2) := by decide +kernel
theorem dX5_copy_142 : decode cX5_copy 142 = .ok (.if_icmp .ge 50, 3) := by decide +kernel
theorem dX5_copy_145 : decode cX5_copy 145 = .ok (.iload 6, 2) := by decide +kernel
theorem dX5_copy_147 : decode cX5_copy 147 = .ok (.iload 7, 2) := by decide +kernel
theorem dX5_copy_149 : decode cX5_copy 149 = .ok (.if_icmp .ge 13, 3) := by decide +kernel
theorem dX5_copy_152 : decode cX5_copy 152 = .ok (.iload 5, 2) := by decide +kernel
theorem dX5_copy_154 : decode cX5_copy 154 = .ok (.iconst 1, 1) := by decide +kernel
theorem dX5_copy_155 : decode cX5_copy 155 = .ok (.isub, 1) := by decide +kernel
theorem dX5_copy_156 : decode cX5_copy 156 = .ok (.iload 8, 2) := by decide +kernel
theorem dX5_copy_158 : decode cX5_copy 158 = .ok (.isub, 1) := by decide +kernel
theorem dX5_copy_159 : decode cX5_copy 159 = .ok (.goto 5, 3) := by decide +kernel
theorem dX5_copy_162 : decode cX5_copy 162 = .ok (.iload 8, 2) := by decide +kernel
theorem dX5_copy_164 : decode cX5_copy 164 = .ok (.istore 9, 2) := by decide +kernel
theorem dX5_copy_166 : decode cX5_copy 166 = .ok (.aload_n 0, 1) := by decide +kernel
theorem dX5_copy_167 : decode cX5_copy 167 = .ok (.getfield 34, 3) := by decide +kernel
theorem dX5_copy_170 : decode cX5_copy 170 = .ok (.iload 7, 2) := by decide +kernel
theorem dX5_copy_172 : decode cX5_copy 172 = .ok (.iload 9, 2) := by decide +kernel
theorem dX5_copy_174 : decode cX5_copy 174 = .ok (.iadd, 1) := by decide +kernel
theorem dX5_copy_175 : decode cX5_copy 175 = .ok (.aload_n 0, 1) := by decide +kernel
theorem dX5_copy_176 : decode cX5_copy 176 = .ok (.getfield 34, 3) := by decide +kernel
theorem dX5_copy_179 : decode cX5_copy 179 = .ok (.iload 6, 2) := by decide +kernel
theorem dX5_copy_181 : decode cX5_copy 181 = .ok (.iload 9, 2) := by decide +kernel
theorem dX5_copy_183 : decode cX5_copy 183 = .ok (.iadd, 1) := by decide +kernel
theorem dX5_copy_184 : decode cX5_copy 184 = .ok (.iaload, 1) := by decide +kernel
theorem dX5_copy_185 : decode cX5_copy 185 = .ok (.iastore, 1) := by decide +kernel
theorem dX5_copy_186 : decode cX5_copy 186 = .ok (.iinc 8 1, 3) := by decide +kernel
theorem dX5_copy_189 : decode cX5_copy 189 = .ok (.goto (-51), 3) := by decide +kernel
theorem dX5_copy_192 : decode cX5_copy 192 = .ok (.iload 5, 2) := by decide +kernel
theorem dX5_copy_194 : decode cX5_copy 194 = .ok (.ireturn, 1) := by decide +kernel
theorem dX5_wants_0 : decode cX5_wants 0 = .ok (.iload_n 1, 1) := by decide +kernel
theorem dX5_wants_1 : decode cX5_wants 1 = .ok (.invokestatic 297, 3) := by decide +kernel
theorem dX5_wants_4 : decode cX5_wants 4 = .ok (.ifCond .ne 8, 3) := by decide +kernel
theorem dX5_wants_7 : decode cX5_wants 7 = .ok (.ldc 40, 2) := by decide +kernel
theorem dX5_wants_9 : decode cX5_wants 9 = .ok (.goto 19, 3) := by decide +kernel
theorem dX5_wants_12 : decode cX5_wants 12 = .ok (.aload_n 0, 1) := by decide +kernel
theorem dX5_wants_13 : decode cX5_wants 13 = .ok (.getfield 28, 3) := by decide +kernel
theorem dX5_wants_16 : decode cX5_wants 16 = .ok (.iload_n 1, 1) := by decide +kernel
theorem dX5_wants_17 : decode cX5_wants 17 = .ok (.iaload, 1) := by decide +kernel
theorem dX5_wants_18 : decode cX5_wants 18 = .ok (.ifCond .ge 9, 3) := by decide +kernel
theorem dX5_wants_21 : decode cX5_wants 21 = .ok (.ldc_w 292, 3) := by decide +kernel
theorem dX5_wants_24 : decode cX5_wants 24 = .ok (.goto 4, 3) := by decide +kernel
theorem dX5_wants_27 : decode cX5_wants 27 = .ok (.iconst 0, 1) := by decide +kernel
theorem dX5_wants_28 : decode cX5_wants 28 = .ok (.ireturn, 1) := by decide +kernel
theorem dX5_load_0 : decode cX5_load 0 = .ok (.aload_n 0, 1) := by decide +kernel
theorem dX5_load_1 : decode cX5_load 1 = .ok (.iload_n 1, 1) := by decide +kernel
theorem dX5_load_2 : decode cX5_load 2 = .ok (.invokevirtual 197, 3) := by decide +kernel
theorem dX5_load_5 : decode cX5_load 5 = .ok (.ifCond .eq 13, 3) := by decide +kernel
theorem dX5_load_8 : decode cX5_load 8 = .ok (.aload_n 0, 1) := by decide +kernel
theorem dX5_load_9 : decode cX5_load 9 = .ok (.aload_n 0, 1) := by decide +kernel
theorem dX5_load_10 : decode cX5_load 10 = .ok (.iload_n 1, 1) := by decide +kernel
theorem dX5_load_11 : decode cX5_load 11 = .ok (.invokevirtual 197, 3) := by decide +kernel
theorem dX5_load_14 : decode cX5_load 14 = .ok (.invokevirtual 46, 3) := by decide +kernel
theorem dX5_load_17 : decode cX5_load 17 = .ok (.ireturn, 1) := by decide +kernel
theorem dX5_load_18 : decode cX5_load 18 = .ok (.iconst 0, 1) := by decide +kernel
theorem dX5_load_19 : decode cX5_load 19 = .ok (.istore_n 2, 1) := by decide +kernel
theorem dX5_load_20 : decode cX5_load 20 = .ok (.iload_n 2, 1) := by decide +kernel
theorem dX5_load_21 : decode cX5_load 21 = .ok (.aload_n 0, 1) := by decide +kernel
theorem dX5_load_22 : decode cX5_load 22 = .ok (.getfield 31, 3) := by decide +kernel
theorem dX5_load_25 : decode cX5_load 25 = .ok (.iload_n 1, 1) := by decide +kernel
theorem dX5_load_26 : decode cX5_load 26 = .ok (.iaload, 1) := by decide +kernel
theorem dX5_load_27 : decode cX5_load 27 = .ok (.if_icmp .ge 56, 3) := by decide +kernel
theorem dX5_load_30 : decode cX5_load 30 = .ok (.iload_n 2, 1) := by decide +kernel
theorem dX5_load_31 : decode cX5_load 31 = .ok (.bipush 8, 2) := by decide +kernel
theorem dX5_load_33 : decode cX5_load 33 = .ok (.if_icmp .ge 50, 3) := by decide +kernel
theorem dX5_load_36 : decode cX5_load 36 = .ok (.aload_n 0, 1) := by decide +kernel
theorem dX5_load_37 : decode cX5_load 37 = .ok (.getfield 34, 3) := by decide +kernel
theorem dX5_load_40 : decode cX5_load 40 = .ok (.bipush 40, 2) := by decide +kernel
theorem dX5_load_42 : decode cX5_load 42 = .ok (.iload_n 1, 1) := by decide +kernel
theorem dX5_load_43 : decode cX5_load 43 = .ok (.imul, 1) := by decide +kernel
theorem dX5_load_44 : decode cX5_load 44 = .ok (.iload_n 2, 1) := by decide +kernel
theorem dX5_load_45 : decode cX5_load 45 = .ok (.iadd, 1) := by decide +kernel
theorem dX5_load_46 : decode cX5_load 46 = .ok (.iaload, 1) := by decide +kernel
theorem dX5_load_47 : decode cX5_load 47 = .ok (.i2l, 1) := by decide +kernel
theorem dX5_load_48 : decode cX5_load 48 = .ok (.lconst 0, 1) := by decide +kernel
theorem dX5_load_49 : decode cX5_load 49 = .ok (.ldc2_w 54, 3) := by decide +kernel
theorem dX5_load_52 : decode cX5_load 52 = .ok (.invokestatic 56, 3) := by decide +kernel
theorem dX5_load_55 : decode cX5_load 55 = .ok (.ifCond .eq 28, 3) := by decide +kernel
theorem dX5_load_58 : decode cX5_load 58 = .ok (.aload_n 0, 1) := by decide +kernel
theorem dX5_load_59 : decode cX5_load 59 = .ok (.getfield 7, 3) := by decide +kernel
theorem dX5_load_62 : decode cX5_load 62 = .ok (.iconst 3, 1) := by decide +kernel
theorem dX5_load_63 : decode cX5_load 63 = .ok (.iload_n 2, 1) := by decide +kernel
theorem dX5_load_64 : decode cX5_load 64 = .ok (.iadd, 1) := by decide +kernel
theorem dX5_load_65 : decode cX5_load 65 = .ok (.aload_n 0, 1) := by decide +kernel
theorem dX5_load_66 : decode cX5_load 66 = .ok (.getfield 34, 3) := by decide +kernel
theorem dX5_load_69 : decode cX5_load 69 = .ok (.bipush 40, 2) := by decide +kernel
theorem dX5_load_71 : decode cX5_load 71 = .ok (.iload_n 1, 1) := by decide +kernel
theorem dX5_load_72 : decode cX5_load 72 = .ok (.imul, 1) := by decide +kernel
theorem dX5_load_73 : decode cX5_load 73 = .ok (.iload_n 2, 1) := by decide +kernel
theorem dX5_load_74 : decode cX5_load 74 = .ok (.iadd, 1) := by decide +kernel
theorem dX5_load_75 : decode cX5_load 75 = .ok (.iaload, 1) := by decide +kernel
theorem dX5_load_76 : decode cX5_load 76 = .ok (.iastore, 1) := by decide +kernel
theorem dX5_load_77 : decode cX5_load 77 = .ok (.iinc 2 1, 3) := by decide +kernel
theorem dX5_load_80 : decode cX5_load 80 = .ok (.goto (-60), 3) := by decide +kernel
theorem dX5_load_83 : decode cX5_load 83 = .ok (.iload_n 2, 1) := by decide +kernel
theorem dX5_load_84 : decode cX5_load 84 = .ok (.ireturn, 1) := by decide +kernel
theorem dX5_judge_0 : decode cX5_judge 0 = .ok (.aload_n 0, 1) := by decide +kernel
theorem dX5_judge_1 : decode cX5_judge 1 = .ok (.iload_n 1, 1) := by decide +kernel
theorem dX5_judge_2 : decode cX5_judge 2 = .ok (.invokevirtual 197, 3) := by decide +kernel
theorem dX5_judge_5 : decode cX5_judge 5 = .ok (.ifCond .eq 13, 3) := by decide +kernel
theorem dX5_judge_8 : decode cX5_judge 8 = .ok (.aload_n 0, 1) := by decide +kernel
theorem dX5_judge_9 : decode cX5_judge 9 = .ok (.aload_n 0, 1) := by decide +kernel
theorem dX5_judge_10 : decode cX5_judge 10 = .ok (.iload_n 1, 1) := by decide +kernel
theorem dX5_judge_11 : decode cX5_judge 11 = .ok (.invokevirtual 197, 3) := by decide +kernel
theorem dX5_judge_14 : decode cX5_judge 14 = .ok (.invokevirtual 46, 3) := by decide +kernel
theorem dX5_judge_17 : decode cX5_judge 17 = .ok (.ireturn, 1) := by decide +kernel
theorem dX5_judge_18 : decode cX5_judge 18 = .ok (.iconst 0, 1) := by decide +kernel
theorem dX5_judge_19 : decode cX5_judge 19 = .ok (.istore_n 2, 1) := by decide +kernel
theorem dX5_judge_20 : decode cX5_judge 20 = .ok (.iload_n 2, 1) := by decide +kernel
theorem dX5_judge_21 : decode cX5_judge 21 = .ok (.aload_n 0, 1) := by decide +kernel
theorem dX5_judge_22 : decode cX5_judge 22 = .ok (.getfield 31, 3) := by decide +kernel
theorem dX5_judge_25 : decode cX5_judge 25 = .ok (.iload_n 1, 1) := by decide +kernel
theorem dX5_judge_26 : decode cX5_judge 26 = .ok (.iaload, 1) := by decide +kernel
theorem dX5_judge_27 : decode cX5_judge 27 = .ok (.if_icmp .ge 34, 3) := by decide +kernel
theorem dX5_judge_30 : decode cX5_judge 30 = .ok (.iload_n 2, 1) := by decide +kernel
theorem dX5_judge_31 : decode cX5_judge 31 = .ok (.bipush 6, 2) := by decide +kernel
theorem dX5_judge_33 : decode cX5_judge 33 = .ok (.if_icmp .ge 28, 3) := by decide +kernel
theorem dX5_judge_36 : decode cX5_judge 36 = .ok (.aload_n 0, 1) := by decide +kernel
theorem dX5_judge_37 : decode cX5_judge 37 = .ok (.getfield 34, 3) := by decide +kernel
theorem dX5_judge_40 : decode cX5_judge 40 = .ok (.bipush 40, 2) := by decide +kernel
theorem dX5_judge_42 : decode cX5_judge 42 = .ok (.iload_n 1, 1) := by decide +kernel
theorem dX5_judge_43 : decode cX5_judge 43 = .ok (.imul, 1) := by decide +kernel
theorem dX5_judge_44 : decode cX5_judge 44 = .ok (.iload_n 2, 1) := by decide +kernel
theorem dX5_judge_45 : decode cX5_judge 45 = .ok (.iadd, 1) := by decide +kernel
theorem dX5_judge_46 : decode cX5_judge 46 = .ok (.iaload, 1) := by decide +kernel
theorem dX5_judge_47 : decode cX5_judge 47 = .ok (.aload_n 0, 1) := by decide +kernel
theorem dX5_judge_48 : decode cX5_judge 48 = .ok (.iload_n 2, 1) := by decide +kernel
theorem dX5_judge_49 : decode cX5_judge 49 = .ok (.invokevirtual 72, 3) := by decide +kernel
theorem dX5_judge_52 : decode cX5_judge 52 = .ok (.if_icmp .ne 9, 3) := by decide +kernel
theorem dX5_judge_55 : decode cX5_judge 55 = .ok (.iinc 2 1, 3) := by decide +kernel
theorem dX5_judge_58 : decode cX5_judge 58 = .ok (.goto (-38), 3) := by decide +kernel
theorem dX5_judge_61 : decode cX5_judge 61 = .ok (.iload_n 2, 1) := by decide +kernel
theorem dX5_judge_62 : decode cX5_judge 62 = .ok (.aload_n 0, 1) := by decide +kernel
theorem dX5_judge_63 : decode cX5_judge 63 = .ok (.getfield 31, 3) := by decide +kernel
theorem dX5_judge_66 : decode cX5_judge 66 = .ok (.iload_n 1, 1) := by decide +kernel
theorem dX5_judge_67 : decode cX5_judge 67 = .ok (.iaload, 1) := by decide +kernel
theorem dX5_judge_68 : decode cX5_judge 68 = .ok (.if_icmp .ge 9, 3) := by decide +kernel
theorem dX5_judge_71 : decode cX5_judge 71 = .ok (.iconst 1, 1) := by decide +kernel
theorem dX5_judge_72 : decode cX5_judge 72 = .ok (.iload_n 2, 1) := by decide +kernel
theorem dX5_judge_73 : decode cX5_judge 73 = .ok (.iadd, 1) := by decide +kernel
theorem dX5_judge_74 : decode cX5_judge 74 = .ok (.goto 4, 3) := by decide +kernel
theorem dX5_judge_77 : decode cX5_judge 77 = .ok (.iconst 0, 1) := by decide +kernel
theorem dX5_judge_78 : decode cX5_judge 78 = .ok (.ireturn, 1) := by decide +kernel
theorem dX5_image_0 : decode cX5_image 0 = .ok (.aload_n 0, 1) := by decide +kernel
theorem dX5_image_1 : decode cX5_image 1 = .ok (.getfield 7, 3) := by decide +kernel
theorem dX5_image_4 : decode cX5_image 4 = .ok (.aload_n 0, 1) := by decide +kernel
theorem dX5_image_5 : decode cX5_image 5 = .ok (.getfield 13, 3) := by decide +kernel
theorem dX5_image_8 : decode cX5_image 8 = .ok (.invokestatic 160, 3) := by decide +kernel
theorem dX5_image_11 : decode cX5_image 11 = .ok (.aload_n 0, 1) := by decide +kernel
theorem dX5_image_12 : decode cX5_image 12 = .ok (.iconst 1, 1) := by decide +kernel
theorem dX5_image_13 : decode cX5_image 13 = .ok (.putfield 301, 3) := by decide +kernel
theorem dX5_image_16 : decode cX5_image 16 = .ok (.iconst 1, 1) := by decide +kernel
theorem dX5_image_17 : decode cX5_image 17 = .ok (.ireturn, 1) := by decide +kernel
theorem dX5_undo_0 : decode cX5_undo 0 = .ok (.aload_n 0, 1) := by decide +kernel
theorem dX5_undo_1 : decode cX5_undo 1 = .ok (.getfield 301, 3) := by decide +kernel
theorem dX5_undo_4 : decode cX5_undo 4 = .ok (.ifCond .ne 10, 3) := by decide +kernel
theorem dX5_undo_7 : decode cX5_undo 7 = .ok (.aload_n 0, 1) := by decide +kernel
theorem dX5_undo_8 : decode cX5_undo 8 = .ok (.ldc 45, 2) := by decide +kernel
theorem dX5_undo_10 : decode cX5_undo 10 = .ok (.invokevirtual 46, 3) := by decide +kernel
theorem dX5_undo_13 : decode cX5_undo 13 = .ok (.ireturn, 1) := by decide +kernel
theorem dX5_undo_14 : decode cX5_undo 14 = .ok (.aload_n 0, 1) := by decide +kernel
theorem dX5_undo_15 : decode cX5_undo 15 = .ok (.getfield 13, 3) := by decide +kernel
theorem dX5_undo_18 : decode cX5_undo 18 = .ok (.aload_n 0, 1) := by decide +kernel
theorem dX5_undo_19 : decode cX5_undo 19 = .ok (.getfield 7, 3) := by decide +kernel
theorem dX5_undo_22 : decode cX5_undo 22 = .ok (.invokestatic 160, 3) := by decide +kernel
theorem dX5_undo_25 : decode cX5_undo 25 = .ok (.aload_n 0, 1) := by decide +kernel
theorem dX5_undo_26 : decode cX5_undo 26 = .ok (.getfield 7, 3) := by decide +kernel
theorem dX5_undo_29 : decode cX5_undo 29 = .ok (.iconst 1, 1) := by decide +kernel
theorem dX5_undo_30 : decode cX5_undo 30 = .ok (.iaload, 1) := by decide +kernel
theorem dX5_undo_31 : decode cX5_undo 31 = .ok (.ireturn, 1) := by decide +kernel
theorem dX5_tear_0 : decode cX5_tear 0 = .ok (.aload_n 0, 1) := by decide +kernel
theorem dX5_tear_1 : decode cX5_tear 1 = .ok (.getfield 301, 3) := by decide +kernel
theorem dX5_tear_4 : decode cX5_tear 4 = .ok (.istore_n 1, 1) := by decide +kernel
theorem dX5_tear_5 : decode cX5_tear 5 = .ok (.aload_n 0, 1) := by decide +kernel
theorem dX5_tear_6 : decode cX5_tear 6 = .ok (.iconst 0, 1) := by decide +kernel
theorem dX5_tear_7 : decode cX5_tear 7 = .ok (.putfield 301, 3) := by decide +kernel
theorem dX5_tear_10 : decode cX5_tear 10 = .ok (.iload_n 1, 1) := by decide +kernel
theorem dX5_tear_11 : decode cX5_tear 11 = .ok (.ifCond .eq 7, 3) := by decide +kernel
theorem dX5_tear_14 : decode cX5_tear 14 = .ok (.iconst 1, 1) := by decide +kernel
theorem dX5_tear_15 : decode cX5_tear 15 = .ok (.goto 4, 3) := by decide +kernel
theorem dX5_tear_18 : decode cX5_tear 18 = .ok (.iconst 0, 1) := by decide +kernel
theorem dX5_tear_19 : decode cX5_tear 19 = .ok (.ireturn, 1) := by decide +kernel
theorem dX5_count_0 : decode cX5_count 0 = .ok (.iconst 0, 1) := by decide +kernel
theorem dX5_count_1 : decode cX5_count 1 = .ok (.istore_n 2, 1) := by decide +kernel
theorem dX5_count_2 : decode cX5_count 2 = .ok (.iload_n 1, 1) := by decide +kernel
theorem dX5_count_3 : decode cX5_count 3 = .ok (.tableswitch 122 0 7 #[45, 52, 59, 64, 69, 74, 79, 86], 45) := by decide +kernel
theorem dX5_count_48 : decode cX5_count 48 = .ok (.aload_n 0, 1) := by decide +kernel
theorem dX5_count_49 : decode cX5_count 49 = .ok (.getfield 7, 3) := by decide +kernel
theorem dX5_count_52 : decode cX5_count 52 = .ok (.iconst 1, 1) := by decide +kernel
theorem dX5_count_53 : decode cX5_count 53 = .ok (.iaload, 1) := by decide +kernel
theorem dX5_count_54 : decode cX5_count 54 = .ok (.ireturn, 1) := by decide +kernel
theorem dX5_count_55 : decode cX5_count 55 = .ok (.aload_n 0, 1) := by decide +kernel
theorem dX5_count_56 : decode cX5_count 56 = .ok (.getfield 7, 3) := by decide +kernel
theorem dX5_count_59 : decode cX5_count 59 = .ok (.iconst 0, 1) := by decide +kernel
theorem dX5_count_60 : decode cX5_count 60 = .ok (.iaload, 1) := by decide +kernel
theorem dX5_count_61 : decode cX5_count 61 = .ok (.ireturn, 1) := by decide +kernel
theorem dX5_count_62 : decode cX5_count 62 = .ok (.aload_n 0, 1) := by decide +kernel
theorem dX5_count_63 : decode cX5_count 63 = .ok (.invokevirtual 142, 3) := by decide +kernel
theorem dX5_count_66 : decode cX5_count 66 = .ok (.ireturn, 1) := by decide +kernel
theorem dX5_count_67 : decode cX5_count 67 = .ok (.aload_n 0, 1) := by decide +kernel
theorem dX5_count_68 : decode cX5_count 68 = .ok (.invokevirtual 149, 3) := by decide +kernel
theorem dX5_count_71 : decode cX5_count 71 = .ok (.ireturn, 1) := by decide +kernel
theorem dX5_count_72 : decode cX5_count 72 = .ok (.aload_n 0, 1) := by decide +kernel
theorem dX5_count_73 : decode cX5_count 73 = .ok (.invokevirtual 146, 3) := by decide +kernel
theorem dX5_count_76 : decode cX5_count 76 = .ok (.ireturn, 1) := by decide +kernel
theorem dX5_count_77 : decode cX5_count 77 = .ok (.aload_n 0, 1) := by decide +kernel
theorem dX5_count_78 : decode cX5_count 78 = .ok (.getfield 212, 3) := by decide +kernel
theorem dX5_count_81 : decode cX5_count 81 = .ok (.ireturn, 1) := by decide +kernel
theorem dX5_count_82 : decode cX5_count 82 = .ok (.aload_n 0, 1) := by decide +kernel
theorem dX5_count_83 : decode cX5_count 83 = .ok (.getfield 7, 3) := by decide +kernel
theorem dX5_count_86 : decode cX5_count 86 = .ok (.iconst 2, 1) := by decide +kernel
theorem dX5_count_87 : decode cX5_count 87 = .ok (.iaload, 1) := by decide +kernel
theorem dX5_count_88 : decode cX5_count 88 = .ok (.ireturn, 1) := by decide +kernel
theorem dX5_count_89 : decode cX5_count 89 = .ok (.iconst 0, 1) := by decide +kernel
theorem dX5_count_90 : decode cX5_count 90 = .ok (.istore_n 3, 1) := by decide +kernel
theorem dX5_count_91 : decode cX5_count 91 = .ok (.iload_n 3, 1) := by decide +kernel
theorem dX5_count_92 : decode cX5_count 92 = .ok (.bipush 10, 2) := by decide +kernel
theorem dX5_count_94 : decode cX5_count 94 = .ok (.if_icmp .ge 29, 3) := by decide +kernel
theorem dX5_count_97 : decode cX5_count 97 = .ok (.iload_n 2, 1) := by decide +kernel
theorem dX5_count_98 : decode cX5_count 98 = .ok (.aload_n 0, 1) := by decide +kernel
theorem dX5_count_99 : decode cX5_count 99 = .ok (.getfield 7, 3) := by decide +kernel
theorem dX5_count_102 : decode cX5_count 102 = .ok (.bipush 83, 2) := by decide +kernel
theorem dX5_count_104 : decode cX5_count 104 = .ok (.iload_n 3, 1) := by decide +kernel
theorem dX5_count_105 : decode cX5_count 105 = .ok (.iadd, 1) := by decide +kernel
theorem dX5_count_106 : decode cX5_count 106 = .ok (.iaload, 1) := by decide +kernel
theorem dX5_count_107 : decode cX5_count 107 = .ok (.ifCond .ge 7, 3) := by decide +kernel
theorem dX5_count_110 : decode cX5_count 110 = .ok (.iconst 0, 1) := by decide +kernel
theorem dX5_count_111 : decode cX5_count 111 = .ok (.goto 4, 3) := by decide +kernel
theorem dX5_count_114 : decode cX5_count 114 = .ok (.iconst 1, 1) := by decide +kernel
theorem dX5_count_115 : decode cX5_count 115 = .ok (.iadd, 1) := by decide +kernel
theorem dX5_count_116 : decode cX5_count 116 = .ok (.istore_n 2, 1) := by decide +kernel
theorem dX5_count_117 : decode cX5_count 117 = .ok (.iinc 3 1, 3) := by decide +kernel
theorem dX5_count_120 : decode cX5_count 120 = .ok (.goto (-29), 3) := by decide +kernel
theorem dX5_count_123 : decode cX5_count 123 = .ok (.iload_n 2, 1) := by decide +kernel
theorem dX5_count_124 : decode cX5_count 124 = .ok (.ireturn, 1) := by decide +kernel
theorem dX5_count_125 : decode cX5_count 125 = .ok (.aload_n 0, 1) := by decide +kernel
theorem dX5_count_126 : decode cX5_count 126 = .ok (.ldc 40, 2) := by decide +kernel
theorem dX5_count_128 : decode cX5_count 128 = .ok (.invokevirtual 46, 3) := by decide +kernel
theorem dX5_count_131 : decode cX5_count 131 = .ok (.ireturn, 1) := by decide +kernel
theorem dX5_status_0 : decode cX5_status 0 = .ok (.iload_n 1, 1) := by decide +kernel
theorem dX5_status_1 : decode cX5_status 1 = .ok (.i2l, 1) := by decide +kernel
theorem dX5_status_2 : decode cX5_status 2 = .ok (.ldc2_w 305, 3) := by decide +kernel
theorem dX5_status_5 : decode cX5_status 5 = .ok (.ldc2_w 87, 3) := by decide +kernel
theorem dX5_status_8 : decode cX5_status 8 = .ok (.invokestatic 56, 3) := by decide +kernel
theorem dX5_status_11 : decode cX5_status 11 = .ok (.ifCond .eq 14, 3) := by decide +kernel
theorem dX5_status_14 : decode cX5_status 14 = .ok (.aload_n 0, 1) := by decide +kernel
theorem dX5_status_15 : decode cX5_status 15 = .ok (.getfield 22, 3) := by decide +kernel
theorem dX5_status_18 : decode cX5_status 18 = .ok (.iload_n 1, 1) := by decide +kernel
theorem dX5_status_19 : decode cX5_status 19 = .ok (.iconst 1, 1) := by decide +kernel
theorem dX5_status_20 : decode cX5_status 20 = .ok (.iadd, 1) := by decide +kernel
theorem dX5_status_21 : decode cX5_status 21 = .ok (.iaload, 1) := by decide +kernel
theorem dX5_status_22 : decode cX5_status 22 = .ok (.goto 9, 3) := by decide +kernel
theorem dX5_status_25 : decode cX5_status 25 = .ok (.aload_n 0, 1) := by decide +kernel
theorem dX5_status_26 : decode cX5_status 26 = .ok (.ldc 40, 2) := by decide +kernel
theorem dX5_status_28 : decode cX5_status 28 = .ok (.invokevirtual 46, 3) := by decide +kernel
theorem dX5_status_31 : decode cX5_status 31 = .ok (.ireturn, 1) := by decide +kernel
theorem dJ6_bitCount_0f7a4_0 : decode cJ6_bitCount_0f7a4 0 = .ok (.iload_n 0, 1) := by decide +kernel
theorem dJ6_bitCount_0f7a4_1 : decode cJ6_bitCount_0f7a4 1 = .ok (.iload_n 0, 1) := by decide +kernel
theorem dJ6_bitCount_0f7a4_2 : decode cJ6_bitCount_0f7a4 2 = .ok (.iconst 1, 1) := by decide +kernel
theorem dJ6_bitCount_0f7a4_3 : decode cJ6_bitCount_0f7a4 3 = .ok (.iushr, 1) := by decide +kernel
theorem dJ6_bitCount_0f7a4_4 : decode cJ6_bitCount_0f7a4 4 = .ok (.ldc_w 265, 3) := by decide +kernel
theorem dJ6_bitCount_0f7a4_7 : decode cJ6_bitCount_0f7a4 7 = .ok (.iand, 1) := by decide +kernel
theorem dJ6_bitCount_0f7a4_8 : decode cJ6_bitCount_0f7a4 8 = .ok (.isub, 1) := by decide +kernel
theorem dJ6_bitCount_0f7a4_9 : decode cJ6_bitCount_0f7a4 9 = .ok (.istore_n 0, 1) := by decide +kernel
theorem dJ6_bitCount_0f7a4_10 : decode cJ6_bitCount_0f7a4 10 = .ok (.iload_n 0, 1) := by decide +kernel
theorem dJ6_bitCount_0f7a4_11 : decode cJ6_bitCount_0f7a4 11 = .ok (.ldc_w 266, 3) := by decide +kernel
theorem dJ6_bitCount_0f7a4_14 : decode cJ6_bitCount_0f7a4 14 = .ok (.iand, 1) := by decide +kernel
theorem dJ6_bitCount_0f7a4_15 : decode cJ6_bitCount_0f7a4 15 = .ok (.iload_n 0, 1) := by decide +kernel
theorem dJ6_bitCount_0f7a4_16 : decode cJ6_bitCount_0f7a4 16 = .ok (.iconst 2, 1) := by decide +kernel
theorem dJ6_bitCount_0f7a4_17 : decode cJ6_bitCount_0f7a4 17 = .ok (.iushr, 1) := by decide +kernel
theorem dJ6_bitCount_0f7a4_18 : decode cJ6_bitCount_0f7a4 18 = .ok (.ldc_w 266, 3) := by decide +kernel
theorem dJ6_bitCount_0f7a4_21 : decode cJ6_bitCount_0f7a4 21 = .ok (.iand, 1) := by decide +kernel
theorem dJ6_bitCount_0f7a4_22 : decode cJ6_bitCount_0f7a4 22 = .ok (.iadd, 1) := by decide +kernel
theorem dJ6_bitCount_0f7a4_23 : decode cJ6_bitCount_0f7a4 23 = .ok (.istore_n 0, 1) := by decide +kernel
theorem dJ6_bitCount_0f7a4_24 : decode cJ6_bitCount_0f7a4 24 = .ok (.iload_n 0, 1) := by decide +kernel
theorem dJ6_bitCount_0f7a4_25 : decode cJ6_bitCount_0f7a4 25 = .ok (.iload_n 0, 1) := by decide +kernel
theorem dJ6_bitCount_0f7a4_26 : decode cJ6_bitCount_0f7a4 26 = .ok (.iconst 4, 1) := by decide +kernel
theorem dJ6_bitCount_0f7a4_27 : decode cJ6_bitCount_0f7a4 27 = .ok (.iushr, 1) := by decide +kernel
theorem dJ6_bitCount_0f7a4_28 : decode cJ6_bitCount_0f7a4 28 = .ok (.iadd, 1) := by decide +kernel
