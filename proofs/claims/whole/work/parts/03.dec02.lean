theorem dX3_step_174 : decode cX3_step 174 = .ok (.if_icmp .ge 27, 3) := by decide +kernel
theorem dX3_step_177 : decode cX3_step 177 = .ok (.aload_n 0, 1) := by decide +kernel
theorem dX3_step_178 : decode cX3_step 178 = .ok (.aload_n 0, 1) := by decide +kernel
theorem dX3_step_179 : decode cX3_step 179 = .ok (.getfield 28, 3) := by decide +kernel
theorem dX3_step_182 : decode cX3_step 182 = .ok (.bipush 10, 2) := by decide +kernel
theorem dX3_step_184 : decode cX3_step 184 = .ok (.imul, 1) := by decide +kernel
theorem dX3_step_185 : decode cX3_step 185 = .ok (.aload_n 0, 1) := by decide +kernel
theorem dX3_step_186 : decode cX3_step 186 = .ok (.getfield 9, 3) := by decide +kernel
theorem dX3_step_189 : decode cX3_step 189 = .ok (.aload_n 0, 1) := by decide +kernel
theorem dX3_step_190 : decode cX3_step 190 = .ok (.getfield 25, 3) := by decide +kernel
theorem dX3_step_193 : decode cX3_step 193 = .ok (.baload, 1) := by decide +kernel
theorem dX3_step_194 : decode cX3_step 194 = .ok (.iadd, 1) := by decide +kernel
theorem dX3_step_195 : decode cX3_step 195 = .ok (.bipush 48, 2) := by decide +kernel
theorem dX3_step_197 : decode cX3_step 197 = .ok (.isub, 1) := by decide +kernel
theorem dX3_step_198 : decode cX3_step 198 = .ok (.putfield 28, 3) := by decide +kernel
theorem dX3_step_201 : decode cX3_step 201 = .ok (.aload_n 0, 1) := by decide +kernel
theorem dX3_step_202 : decode cX3_step 202 = .ok (.dup, 1) := by decide +kernel
theorem dX3_step_203 : decode cX3_step 203 = .ok (.getfield 25, 3) := by decide +kernel
theorem dX3_step_206 : decode cX3_step 206 = .ok (.iconst 1, 1) := by decide +kernel
theorem dX3_step_207 : decode cX3_step 207 = .ok (.iadd, 1) := by decide +kernel
theorem dX3_step_208 : decode cX3_step 208 = .ok (.putfield 25, 3) := by decide +kernel
theorem dX3_step_211 : decode cX3_step 211 = .ok (.goto (-83), 3) := by decide +kernel
theorem dX3_step_214 : decode cX3_step 214 = .ok (.aload_n 0, 1) := by decide +kernel
theorem dX3_step_215 : decode cX3_step 215 = .ok (.getfield 25, 3) := by decide +kernel
theorem dX3_step_218 : decode cX3_step 218 = .ok (.aload_n 0, 1) := by decide +kernel
theorem dX3_step_219 : decode cX3_step 219 = .ok (.getfield 22, 3) := by decide +kernel
theorem dX3_step_222 : decode cX3_step 222 = .ok (.if_icmp .le 11, 3) := by decide +kernel
theorem dX3_step_225 : decode cX3_step 225 = .ok (.aload_n 0, 1) := by decide +kernel
theorem dX3_step_226 : decode cX3_step 226 = .ok (.iconst 2, 1) := by decide +kernel
theorem dX3_step_227 : decode cX3_step 227 = .ok (.putfield 19, 3) := by decide +kernel
theorem dX3_step_230 : decode cX3_step 230 = .ok (.goto 55, 3) := by decide +kernel
theorem dX3_step_233 : decode cX3_step 233 = .ok (.aload_n 0, 1) := by decide +kernel
theorem dX3_step_234 : decode cX3_step 234 = .ok (.getfield 22, 3) := by decide +kernel
theorem dX3_step_237 : decode cX3_step 237 = .ok (.aload_n 0, 1) := by decide +kernel
theorem dX3_step_238 : decode cX3_step 238 = .ok (.getfield 15, 3) := by decide +kernel
theorem dX3_step_241 : decode cX3_step 241 = .ok (.if_icmp .ne 11, 3) := by decide +kernel
theorem dX3_step_244 : decode cX3_step 244 = .ok (.aload_n 0, 1) := by decide +kernel
theorem dX3_step_245 : decode cX3_step 245 = .ok (.iconst 0, 1) := by decide +kernel
theorem dX3_step_246 : decode cX3_step 246 = .ok (.putfield 19, 3) := by decide +kernel
theorem dX3_step_249 : decode cX3_step 249 = .ok (.goto 36, 3) := by decide +kernel
theorem dX3_step_252 : decode cX3_step 252 = .ok (.aload_n 0, 1) := by decide +kernel
theorem dX3_step_253 : decode cX3_step 253 = .ok (.aload_n 0, 1) := by decide +kernel
theorem dX3_step_254 : decode cX3_step 254 = .ok (.getfield 9, 3) := by decide +kernel
theorem dX3_step_257 : decode cX3_step 257 = .ok (.aload_n 0, 1) := by decide +kernel
theorem dX3_step_258 : decode cX3_step 258 = .ok (.getfield 22, 3) := by decide +kernel
theorem dX3_step_261 : decode cX3_step 261 = .ok (.baload, 1) := by decide +kernel
theorem dX3_step_262 : decode cX3_step 262 = .ok (.bipush 59, 2) := by decide +kernel
theorem dX3_step_264 : decode cX3_step 264 = .ok (.if_icmp .ne 7, 3) := by decide +kernel
theorem dX3_step_267 : decode cX3_step 267 = .ok (.iconst 3, 1) := by decide +kernel
theorem dX3_step_268 : decode cX3_step 268 = .ok (.goto 4, 3) := by decide +kernel
theorem dX3_step_271 : decode cX3_step 271 = .ok (.iconst 4, 1) := by decide +kernel
theorem dX3_step_272 : decode cX3_step 272 = .ok (.putfield 19, 3) := by decide +kernel
theorem dX3_step_275 : decode cX3_step 275 = .ok (.aload_n 0, 1) := by decide +kernel
theorem dX3_step_276 : decode cX3_step 276 = .ok (.dup, 1) := by decide +kernel
theorem dX3_step_277 : decode cX3_step 277 = .ok (.getfield 25, 3) := by decide +kernel
theorem dX3_step_280 : decode cX3_step 280 = .ok (.iconst 1, 1) := by decide +kernel
theorem dX3_step_281 : decode cX3_step 281 = .ok (.iadd, 1) := by decide +kernel
theorem dX3_step_282 : decode cX3_step 282 = .ok (.putfield 25, 3) := by decide +kernel
theorem dX3_step_285 : decode cX3_step 285 = .ok (.return_, 1) := by decide +kernel
theorem dX4_init_0 : decode cX4_init 0 = .ok (.aload_n 0, 1) := by decide +kernel
theorem dX4_init_1 : decode cX4_init 1 = .ok (.invokespecial 3, 3) := by decide +kernel
theorem dX4_init_4 : decode cX4_init 4 = .ok (.aload_n 0, 1) := by decide +kernel
theorem dX4_init_5 : decode cX4_init 5 = .ok (.new 9, 3) := by decide +kernel
theorem dX4_init_8 : decode cX4_init 8 = .ok (.dup, 1) := by decide +kernel
theorem dX4_init_9 : decode cX4_init 9 = .ok (.invokespecial 11, 3) := by decide +kernel
theorem dX4_init_12 : decode cX4_init 12 = .ok (.putfield 12, 3) := by decide +kernel
theorem dX4_init_15 : decode cX4_init 15 = .ok (.aload_n 0, 1) := by decide +kernel
theorem dX4_init_16 : decode cX4_init 16 = .ok (.new 9, 3) := by decide +kernel
theorem dX4_init_19 : decode cX4_init 19 = .ok (.dup, 1) := by decide +kernel
theorem dX4_init_20 : decode cX4_init 20 = .ok (.invokespecial 11, 3) := by decide +kernel
theorem dX4_init_23 : decode cX4_init 23 = .ok (.putfield 16, 3) := by decide +kernel
theorem dX4_init_26 : decode cX4_init 26 = .ok (.aload_n 0, 1) := by decide +kernel
theorem dX4_init_27 : decode cX4_init 27 = .ok (.new 9, 3) := by decide +kernel
theorem dX4_init_30 : decode cX4_init 30 = .ok (.dup, 1) := by decide +kernel
theorem dX4_init_31 : decode cX4_init 31 = .ok (.invokespecial 11, 3) := by decide +kernel
theorem dX4_init_34 : decode cX4_init 34 = .ok (.putfield 19, 3) := by decide +kernel
theorem dX4_init_37 : decode cX4_init 37 = .ok (.aload_n 0, 1) := by decide +kernel
theorem dX4_init_38 : decode cX4_init 38 = .ok (.new 9, 3) := by decide +kernel
theorem dX4_init_41 : decode cX4_init 41 = .ok (.dup, 1) := by decide +kernel
theorem dX4_init_42 : decode cX4_init 42 = .ok (.invokespecial 11, 3) := by decide +kernel
theorem dX4_init_45 : decode cX4_init 45 = .ok (.putfield 22, 3) := by decide +kernel
theorem dX4_init_48 : decode cX4_init 48 = .ok (.aload_n 0, 1) := by decide +kernel
theorem dX4_init_49 : decode cX4_init 49 = .ok (.new 25, 3) := by decide +kernel
theorem dX4_init_52 : decode cX4_init 52 = .ok (.dup, 1) := by decide +kernel
theorem dX4_init_53 : decode cX4_init 53 = .ok (.invokespecial 27, 3) := by decide +kernel
theorem dX4_init_56 : decode cX4_init 56 = .ok (.putfield 28, 3) := by decide +kernel
theorem dX4_init_59 : decode cX4_init 59 = .ok (.aload_n 0, 1) := by decide +kernel
theorem dX4_init_60 : decode cX4_init 60 = .ok (.iconst 4, 1) := by decide +kernel
theorem dX4_init_61 : decode cX4_init 61 = .ok (.anewarray 32, 3) := by decide +kernel
theorem dX4_init_64 : decode cX4_init 64 = .ok (.putfield 34, 3) := by decide +kernel
theorem dX4_init_67 : decode cX4_init 67 = .ok (.aload_n 0, 1) := by decide +kernel
theorem dX4_init_68 : decode cX4_init 68 = .ok (.bipush 7, 2) := by decide +kernel
theorem dX4_init_70 : decode cX4_init 70 = .ok (.newarray .int, 2) := by decide +kernel
theorem dX4_init_72 : decode cX4_init 72 = .ok (.putfield 38, 3) := by decide +kernel
theorem dX4_init_75 : decode cX4_init 75 = .ok (.aload_n 0, 1) := by decide +kernel
theorem dX4_init_76 : decode cX4_init 76 = .ok (.iconst 0, 1) := by decide +kernel
theorem dX4_init_77 : decode cX4_init 77 = .ok (.putfield 42, 3) := by decide +kernel
theorem dX4_init_80 : decode cX4_init 80 = .ok (.iconst 0, 1) := by decide +kernel
theorem dX4_init_81 : decode cX4_init 81 = .ok (.istore_n 1, 1) := by decide +kernel
theorem dX4_init_82 : decode cX4_init 82 = .ok (.iload_n 1, 1) := by decide +kernel
theorem dX4_init_83 : decode cX4_init 83 = .ok (.iconst 4, 1) := by decide +kernel
theorem dX4_init_84 : decode cX4_init 84 = .ok (.if_icmp .ge 22, 3) := by decide +kernel
theorem dX4_init_87 : decode cX4_init 87 = .ok (.aload_n 0, 1) := by decide +kernel
theorem dX4_init_88 : decode cX4_init 88 = .ok (.getfield 34, 3) := by decide +kernel
theorem dX4_init_91 : decode cX4_init 91 = .ok (.iload_n 1, 1) := by decide +kernel
theorem dX4_init_92 : decode cX4_init 92 = .ok (.new 32, 3) := by decide +kernel
theorem dX4_init_95 : decode cX4_init 95 = .ok (.dup, 1) := by decide +kernel
theorem dX4_init_96 : decode cX4_init 96 = .ok (.invokespecial 46, 3) := by decide +kernel
theorem dX4_init_99 : decode cX4_init 99 = .ok (.aastore, 1) := by decide +kernel
theorem dX4_init_100 : decode cX4_init 100 = .ok (.iinc 1 1, 3) := by decide +kernel
theorem dX4_init_103 : decode cX4_init 103 = .ok (.goto (-21), 3) := by decide +kernel
theorem dX4_init_106 : decode cX4_init 106 = .ok (.return_, 1) := by decide +kernel
theorem dX4_word_0 : decode cX4_word 0 = .ok (.iload_n 1, 1) := by decide +kernel
theorem dX4_word_1 : decode cX4_word 1 = .ok (.invokestatic 47, 3) := by decide +kernel
theorem dX4_word_4 : decode cX4_word 4 = .ok (.ifCond .eq 17, 3) := by decide +kernel
theorem dX4_word_7 : decode cX4_word 7 = .ok (.iload_n 2, 1) := by decide +kernel
theorem dX4_word_8 : decode cX4_word 8 = .ok (.invokestatic 51, 3) := by decide +kernel
theorem dX4_word_11 : decode cX4_word 11 = .ok (.ifCond .eq 10, 3) := by decide +kernel
theorem dX4_word_14 : decode cX4_word 14 = .ok (.iload_n 3, 1) := by decide +kernel
theorem dX4_word_15 : decode cX4_word 15 = .ok (.invokestatic 54, 3) := by decide +kernel
theorem dX4_word_18 : decode cX4_word 18 = .ok (.ifCond .ne 10, 3) := by decide +kernel
theorem dX4_word_21 : decode cX4_word 21 = .ok (.aload_n 0, 1) := by decide +kernel
theorem dX4_word_22 : decode cX4_word 22 = .ok (.ldc 57, 2) := by decide +kernel
theorem dX4_word_24 : decode cX4_word 24 = .ok (.invokevirtual 58, 3) := by decide +kernel
theorem dX4_word_27 : decode cX4_word 27 = .ok (.ireturn, 1) := by decide +kernel
theorem dX4_word_28 : decode cX4_word 28 = .ok (.aload_n 0, 1) := by decide +kernel
theorem dX4_word_29 : decode cX4_word 29 = .ok (.getfield 12, 3) := by decide +kernel
theorem dX4_word_32 : decode cX4_word 32 = .ok (.iload_n 1, 1) := by decide +kernel
theorem dX4_word_33 : decode cX4_word 33 = .ok (.iload_n 2, 1) := by decide +kernel
theorem dX4_word_34 : decode cX4_word 34 = .ok (.invokevirtual 62, 3) := by decide +kernel
theorem dX4_word_37 : decode cX4_word 37 = .ok (.istore 4, 2) := by decide +kernel
theorem dX4_word_39 : decode cX4_word 39 = .ok (.aload_n 0, 1) := by decide +kernel
theorem dX4_word_40 : decode cX4_word 40 = .ok (.getfield 12, 3) := by decide +kernel
theorem dX4_word_43 : decode cX4_word 43 = .ok (.iload_n 1, 1) := by decide +kernel
theorem dX4_word_44 : decode cX4_word 44 = .ok (.iload_n 2, 1) := by decide +kernel
theorem dX4_word_45 : decode cX4_word 45 = .ok (.iload_n 3, 1) := by decide +kernel
theorem dX4_word_46 : decode cX4_word 46 = .ok (.invokevirtual 66, 3) := by decide +kernel
theorem dX4_word_49 : decode cX4_word 49 = .ok (.iload 4, 2) := by decide +kernel
theorem dX4_word_51 : decode cX4_word 51 = .ok (.ireturn, 1) := by decide +kernel
theorem dX4_reads_0 : decode cX4_reads 0 = .ok (.iload_n 1, 1) := by decide +kernel
theorem dX4_reads_1 : decode cX4_reads 1 = .ok (.invokestatic 47, 3) := by decide +kernel
theorem dX4_reads_4 : decode cX4_reads 4 = .ok (.ifCond .eq 10, 3) := by decide +kernel
theorem dX4_reads_7 : decode cX4_reads 7 = .ok (.iload_n 2, 1) := by decide +kernel
theorem dX4_reads_8 : decode cX4_reads 8 = .ok (.invokestatic 51, 3) := by decide +kernel
theorem dX4_reads_11 : decode cX4_reads 11 = .ok (.ifCond .ne 10, 3) := by decide +kernel
theorem dX4_reads_14 : decode cX4_reads 14 = .ok (.aload_n 0, 1) := by decide +kernel
theorem dX4_reads_15 : decode cX4_reads 15 = .ok (.ldc 57, 2) := by decide +kernel
theorem dX4_reads_17 : decode cX4_reads 17 = .ok (.invokevirtual 58, 3) := by decide +kernel
theorem dX4_reads_20 : decode cX4_reads 20 = .ok (.ireturn, 1) := by decide +kernel
theorem dX4_reads_21 : decode cX4_reads 21 = .ok (.aload_n 0, 1) := by decide +kernel
theorem dX4_reads_22 : decode cX4_reads 22 = .ok (.getfield 12, 3) := by decide +kernel
theorem dX4_reads_25 : decode cX4_reads 25 = .ok (.iload_n 1, 1) := by decide +kernel
theorem dX4_reads_26 : decode cX4_reads 26 = .ok (.iload_n 2, 1) := by decide +kernel
theorem dX4_reads_27 : decode cX4_reads 27 = .ok (.invokevirtual 62, 3) := by decide +kernel
theorem dX4_reads_30 : decode cX4_reads 30 = .ok (.ireturn, 1) := by decide +kernel
theorem dX4_page_0 : decode cX4_page 0 = .ok (.iload_n 1, 1) := by decide +kernel
theorem dX4_page_1 : decode cX4_page 1 = .ok (.invokestatic 47, 3) := by decide +kernel
theorem dX4_page_4 : decode cX4_page 4 = .ok (.ifCond .ne 10, 3) := by decide +kernel
theorem dX4_page_7 : decode cX4_page 7 = .ok (.aload_n 0, 1) := by decide +kernel
theorem dX4_page_8 : decode cX4_page 8 = .ok (.ldc 57, 2) := by decide +kernel
theorem dX4_page_10 : decode cX4_page 10 = .ok (.invokevirtual 58, 3) := by decide +kernel
theorem dX4_page_13 : decode cX4_page 13 = .ok (.ireturn, 1) := by decide +kernel
theorem dX4_page_14 : decode cX4_page 14 = .ok (.iload_n 2, 1) := by decide +kernel
theorem dX4_page_15 : decode cX4_page 15 = .ok (.tableswitch 65 0 3 #[29, 38, 47, 56], 29) := by decide +kernel
theorem dX4_page_44 : decode cX4_page 44 = .ok (.aload_n 0, 1) := by decide +kernel
theorem dX4_page_45 : decode cX4_page 45 = .ok (.getfield 12, 3) := by decide +kernel
theorem dX4_page_48 : decode cX4_page 48 = .ok (.iload_n 1, 1) := by decide +kernel
theorem dX4_page_49 : decode cX4_page 49 = .ok (.invokevirtual 70, 3) := by decide +kernel
theorem dX4_page_52 : decode cX4_page 52 = .ok (.ireturn, 1) := by decide +kernel
theorem dX4_page_53 : decode cX4_page 53 = .ok (.aload_n 0, 1) := by decide +kernel
theorem dX4_page_54 : decode cX4_page 54 = .ok (.getfield 12, 3) := by decide +kernel
theorem dX4_page_57 : decode cX4_page 57 = .ok (.iload_n 1, 1) := by decide +kernel
theorem dX4_page_58 : decode cX4_page 58 = .ok (.invokevirtual 73, 3) := by decide +kernel
theorem dX4_page_61 : decode cX4_page 61 = .ok (.ireturn, 1) := by decide +kernel
theorem dX4_page_62 : decode cX4_page 62 = .ok (.aload_n 0, 1) := by decide +kernel
theorem dX4_page_63 : decode cX4_page 63 = .ok (.getfield 12, 3) := by decide +kernel
theorem dX4_page_66 : decode cX4_page 66 = .ok (.iload_n 1, 1) := by decide +kernel
theorem dX4_page_67 : decode cX4_page 67 = .ok (.invokevirtual 76, 3) := by decide +kernel
theorem dX4_page_70 : decode cX4_page 70 = .ok (.ireturn, 1) := by decide +kernel
theorem dX4_page_71 : decode cX4_page 71 = .ok (.aload_n 0, 1) := by decide +kernel
theorem dX4_page_72 : decode cX4_page 72 = .ok (.getfield 12, 3) := by decide +kernel
theorem dX4_page_75 : decode cX4_page 75 = .ok (.iload_n 1, 1) := by decide +kernel
theorem dX4_page_76 : decode cX4_page 76 = .ok (.invokevirtual 79, 3) := by decide +kernel
theorem dX4_page_79 : decode cX4_page 79 = .ok (.ireturn, 1) := by decide +kernel
theorem dX4_page_80 : decode cX4_page 80 = .ok (.aload_n 0, 1) := by decide +kernel
theorem dX4_page_81 : decode cX4_page 81 = .ok (.ldc 57, 2) := by decide +kernel
theorem dX4_page_83 : decode cX4_page 83 = .ok (.invokevirtual 58, 3) := by decide +kernel
theorem dX4_page_86 : decode cX4_page 86 = .ok (.ireturn, 1) := by decide +kernel
theorem dX4_copied_0 : decode cX4_copied 0 = .ok (.iload_n 1, 1) := by decide +kernel
theorem dX4_copied_1 : decode cX4_copied 1 = .ok (.invokestatic 47, 3) := by decide +kernel
theorem dX4_copied_4 : decode cX4_copied 4 = .ok (.ifCond .eq 10, 3) := by decide +kernel
theorem dX4_copied_7 : decode cX4_copied 7 = .ok (.iload_n 2, 1) := by decide +kernel
theorem dX4_copied_8 : decode cX4_copied 8 = .ok (.invokestatic 47, 3) := by decide +kernel
theorem dX4_copied_11 : decode cX4_copied 11 = .ok (.ifCond .ne 10, 3) := by decide +kernel
theorem dX4_copied_14 : decode cX4_copied 14 = .ok (.aload_n 0, 1) := by decide +kernel
theorem dX4_copied_15 : decode cX4_copied 15 = .ok (.ldc 57, 2) := by decide +kernel
theorem dX4_copied_17 : decode cX4_copied 17 = .ok (.invokevirtual 58, 3) := by decide +kernel
theorem dX4_copied_20 : decode cX4_copied 20 = .ok (.ireturn, 1) := by decide +kernel
theorem dX4_copied_21 : decode cX4_copied 21 = .ok (.aload_n 0, 1) := by decide +kernel
theorem dX4_copied_22 : decode cX4_copied 22 = .ok (.getfield 12, 3) := by decide +kernel
theorem dX4_copied_25 : decode cX4_copied 25 = .ok (.iload_n 1, 1) := by decide +kernel
theorem dX4_copied_26 : decode cX4_copied 26 = .ok (.iload_n 2, 1) := by decide +kernel
theorem dX4_copied_27 : decode cX4_copied 27 = .ok (.invokevirtual 82, 3) := by decide +kernel
theorem dX4_copied_30 : decode cX4_copied 30 = .ok (.ireturn, 1) := by decide +kernel
theorem dX4_moth_0 : decode cX4_moth 0 = .ok (.iload_n 1, 1) := by decide +kernel
theorem dX4_moth_1 : decode cX4_moth 1 = .ok (.invokestatic 85, 3) := by decide +kernel
theorem dX4_moth_4 : decode cX4_moth 4 = .ok (.ifCond .eq 10, 3) := by decide +kernel
theorem dX4_moth_7 : decode cX4_moth 7 = .ok (.iload_n 2, 1) := by decide +kernel
theorem dX4_moth_8 : decode cX4_moth 8 = .ok (.invokestatic 47, 3) := by decide +kernel
theorem dX4_moth_11 : decode cX4_moth 11 = .ok (.ifCond .ne 10, 3) := by decide +kernel
theorem dX4_moth_14 : decode cX4_moth 14 = .ok (.aload_n 0, 1) := by decide +kernel
theorem dX4_moth_15 : decode cX4_moth 15 = .ok (.ldc 57, 2) := by decide +kernel
theorem dX4_moth_17 : decode cX4_moth 17 = .ok (.invokevirtual 58, 3) := by decide +kernel
theorem dX4_moth_20 : decode cX4_moth 20 = .ok (.ireturn, 1) := by decide +kernel
theorem dX4_moth_21 : decode cX4_moth 21 = .ok (.aload_n 0, 1) := by decide +kernel
theorem dX4_moth_22 : decode cX4_moth 22 = .ok (.getfield 12, 3) := by decide +kernel
theorem dX4_moth_25 : decode cX4_moth 25 = .ok (.invokevirtual 88, 3) := by decide +kernel
theorem dX4_moth_28 : decode cX4_moth 28 = .ok (.ifCond .eq 10, 3) := by decide +kernel
theorem dX4_moth_31 : decode cX4_moth 31 = .ok (.aload_n 0, 1) := by decide +kernel
theorem dX4_moth_32 : decode cX4_moth 32 = .ok (.ldc 92, 2) := by decide +kernel
theorem dX4_moth_34 : decode cX4_moth 34 = .ok (.invokevirtual 58, 3) := by decide +kernel
theorem dX4_moth_37 : decode cX4_moth 37 = .ok (.ireturn, 1) := by decide +kernel
theorem dX4_moth_38 : decode cX4_moth 38 = .ok (.aload_n 0, 1) := by decide +kernel
theorem dX4_moth_39 : decode cX4_moth 39 = .ok (.getfield 12, 3) := by decide +kernel
theorem dX4_moth_42 : decode cX4_moth 42 = .ok (.iload_n 1, 1) := by decide +kernel
theorem dX4_moth_43 : decode cX4_moth 43 = .ok (.iload_n 2, 1) := by decide +kernel
theorem dX4_moth_44 : decode cX4_moth 44 = .ok (.invokevirtual 93, 3) := by decide +kernel
theorem dX4_moth_47 : decode cX4_moth 47 = .ok (.ireturn, 1) := by decide +kernel
theorem dX4_of_0 : decode cX4_of 0 = .ok (.aload_n 0, 1) := by decide +kernel
theorem dX4_of_1 : decode cX4_of 1 = .ok (.iload_n 1, 1) := by decide +kernel
theorem dX4_of_2 : decode cX4_of 2 = .ok (.invokevirtual 96, 3) := by decide +kernel
theorem dX4_of_5 : decode cX4_of 5 = .ok (.ifCond .eq 12, 3) := by decide +kernel
theorem dX4_of_8 : decode cX4_of 8 = .ok (.iload_n 2, 1) := by decide +kernel
theorem dX4_of_9 : decode cX4_of 9 = .ok (.iconst 0, 1) := by decide +kernel
theorem dX4_of_10 : decode cX4_of 10 = .ok (.iconst 4, 1) := by decide +kernel
theorem dX4_of_11 : decode cX4_of 11 = .ok (.invokestatic 99, 3) := by decide +kernel
theorem dX4_of_14 : decode cX4_of 14 = .ok (.ifCond .ne 10, 3) := by decide +kernel
theorem dX4_of_17 : decode cX4_of 17 = .ok (.aload_n 0, 1) := by decide +kernel
theorem dX4_of_18 : decode cX4_of 18 = .ok (.ldc 57, 2) := by decide +kernel
theorem dX4_of_20 : decode cX4_of 20 = .ok (.invokevirtual 58, 3) := by decide +kernel
theorem dX4_of_23 : decode cX4_of 23 = .ok (.ireturn, 1) := by decide +kernel
theorem dX4_of_24 : decode cX4_of 24 = .ok (.iload_n 2, 1) := by decide +kernel
theorem dX4_of_25 : decode cX4_of 25 = .ok (.iconst 4, 1) := by decide +kernel
theorem dX4_of_26 : decode cX4_of 26 = .ok (.if_icmp .ne 14, 3) := by decide +kernel
theorem dX4_of_29 : decode cX4_of 29 = .ok (.aload_n 0, 1) := by decide +kernel
theorem dX4_of_30 : decode cX4_of 30 = .ok (.getfield 12, 3) := by decide +kernel
theorem dX4_of_33 : decode cX4_of 33 = .ok (.iload_n 1, 1) := by decide +kernel
theorem dX4_of_34 : decode cX4_of 34 = .ok (.invokevirtual 103, 3) := by decide +kernel
theorem dX4_of_37 : decode cX4_of 37 = .ok (.goto 12, 3) := by decide +kernel
theorem dX4_of_40 : decode cX4_of 40 = .ok (.aload_n 0, 1) := by decide +kernel
theorem dX4_of_41 : decode cX4_of 41 = .ok (.getfield 12, 3) := by decide +kernel
theorem dX4_of_44 : decode cX4_of 44 = .ok (.iload_n 1, 1) := by decide +kernel
theorem dX4_of_45 : decode cX4_of 45 = .ok (.iload_n 2, 1) := by decide +kernel
theorem dX4_of_46 : decode cX4_of 46 = .ok (.invokevirtual 106, 3) := by decide +kernel
theorem dX4_of_49 : decode cX4_of 49 = .ok (.ireturn, 1) := by decide +kernel
theorem dX4_change_0 : decode cX4_change 0 = .ok (.aload_n 0, 1) := by decide +kernel
theorem dX4_change_1 : decode cX4_change 1 = .ok (.iload_n 1, 1) := by decide +kernel
theorem dX4_change_2 : decode cX4_change 2 = .ok (.invokevirtual 96, 3) := by decide +kernel
theorem dX4_change_5 : decode cX4_change 5 = .ok (.ifCond .eq 29, 3) := by decide +kernel
theorem dX4_change_8 : decode cX4_change 8 = .ok (.iload_n 2, 1) := by decide +kernel
theorem dX4_change_9 : decode cX4_change 9 = .ok (.iconst 0, 1) := by decide +kernel
theorem dX4_change_10 : decode cX4_change 10 = .ok (.iconst 3, 1) := by decide +kernel
theorem dX4_change_11 : decode cX4_change 11 = .ok (.invokestatic 99, 3) := by decide +kernel
theorem dX4_change_14 : decode cX4_change 14 = .ok (.ifCond .eq 20, 3) := by decide +kernel
theorem dX4_change_17 : decode cX4_change 17 = .ok (.iload_n 3, 1) := by decide +kernel
theorem dX4_change_18 : decode cX4_change 18 = .ok (.getstatic 109, 3) := by decide +kernel
theorem dX4_change_21 : decode cX4_change 21 = .ok (.iload_n 2, 1) := by decide +kernel
theorem dX4_change_22 : decode cX4_change 22 = .ok (.iaload, 1) := by decide +kernel
theorem dX4_change_23 : decode cX4_change 23 = .ok (.getstatic 112, 3) := by decide +kernel
theorem dX4_change_26 : decode cX4_change 26 = .ok (.iload_n 2, 1) := by decide +kernel
theorem dX4_change_27 : decode cX4_change 27 = .ok (.iaload, 1) := by decide +kernel
theorem dX4_change_28 : decode cX4_change 28 = .ok (.invokestatic 99, 3) := by decide +kernel
theorem dX4_change_31 : decode cX4_change 31 = .ok (.ifCond .ne 10, 3) := by decide +kernel
theorem dX4_change_34 : decode cX4_change 34 = .ok (.aload_n 0, 1) := by decide +kernel
theorem dX4_change_35 : decode cX4_change 35 = .ok (.ldc 57, 2) := by decide +kernel
theorem dX4_change_37 : decode cX4_change 37 = .ok (.invokevirtual 58, 3) := by decide +kernel
theorem dX4_change_40 : decode cX4_change 40 = .ok (.ireturn, 1) := by decide +kernel
theorem dX4_change_41 : decode cX4_change 41 = .ok (.aload_n 0, 1) := by decide +kernel
theorem dX4_change_42 : decode cX4_change 42 = .ok (.getfield 12, 3) := by decide +kernel
theorem dX4_change_45 : decode cX4_change 45 = .ok (.iload_n 1, 1) := by decide +kernel
theorem dX4_change_46 : decode cX4_change 46 = .ok (.iload_n 2, 1) := by decide +kernel
theorem dX4_change_47 : decode cX4_change 47 = .ok (.invokevirtual 106, 3) := by decide +kernel
theorem dX4_change_50 : decode cX4_change 50 = .ok (.istore 4, 2) := by decide +kernel
theorem dX4_change_52 : decode cX4_change 52 = .ok (.aload_n 0, 1) := by decide +kernel
theorem dX4_change_53 : decode cX4_change 53 = .ok (.getfield 12, 3) := by decide +kernel
theorem dX4_change_56 : decode cX4_change 56 = .ok (.iload_n 1, 1) := by decide +kernel
theorem dX4_change_57 : decode cX4_change 57 = .ok (.iload_n 2, 1) := by decide +kernel
theorem dX4_change_58 : decode cX4_change 58 = .ok (.iload_n 3, 1) := by decide +kernel
theorem dX4_change_59 : decode cX4_change 59 = .ok (.invokevirtual 115, 3) := by decide +kernel
theorem dX4_change_62 : decode cX4_change 62 = .ok (.iload 4, 2) := by decide +kernel
theorem dX4_change_64 : decode cX4_change 64 = .ok (.ireturn, 1) := by decide +kernel
theorem dX4_leaves_0 : decode cX4_leaves 0 = .ok (.aload_n 0, 1) := by decide +kernel
theorem dX4_leaves_1 : decode cX4_leaves 1 = .ok (.iload_n 1, 1) := by decide +kernel
theorem dX4_leaves_2 : decode cX4_leaves 2 = .ok (.invokevirtual 96, 3) := by decide +kernel
theorem dX4_leaves_5 : decode cX4_leaves 5 = .ok (.ifCond .eq 22, 3) := by decide +kernel
theorem dX4_leaves_8 : decode cX4_leaves 8 = .ok (.iload_n 2, 1) := by decide +kernel
theorem dX4_leaves_9 : decode cX4_leaves 9 = .ok (.iconst 1, 1) := by decide +kernel
theorem dX4_leaves_10 : decode cX4_leaves 10 = .ok (.bipush 9, 2) := by decide +kernel
theorem dX4_leaves_12 : decode cX4_leaves 12 = .ok (.invokestatic 99, 3) := by decide +kernel
theorem dX4_leaves_15 : decode cX4_leaves 15 = .ok (.ifCond .eq 12, 3) := by decide +kernel
theorem dX4_leaves_18 : decode cX4_leaves 18 = .ok (.iload_n 3, 1) := by decide +kernel
theorem dX4_leaves_19 : decode cX4_leaves 19 = .ok (.iconst 0, 1) := by decide +kernel
theorem dX4_leaves_20 : decode cX4_leaves 20 = .ok (.iconst 1, 1) := by decide +kernel
theorem dX4_leaves_21 : decode cX4_leaves 21 = .ok (.invokestatic 99, 3) := by decide +kernel
theorem dX4_leaves_24 : decode cX4_leaves 24 = .ok (.ifCond .ne 10, 3) := by decide +kernel
theorem dX4_leaves_27 : decode cX4_leaves 27 = .ok (.aload_n 0, 1) := by decide +kernel
theorem dX4_leaves_28 : decode cX4_leaves 28 = .ok (.ldc 57, 2) := by decide +kernel
theorem dX4_leaves_30 : decode cX4_leaves 30 = .ok (.invokevirtual 58, 3) := by decide +kernel
theorem dX4_leaves_33 : decode cX4_leaves 33 = .ok (.ireturn, 1) := by decide +kernel
theorem dX4_leaves_34 : decode cX4_leaves 34 = .ok (.aload_n 0, 1) := by decide +kernel
theorem dX4_leaves_35 : decode cX4_leaves 35 = .ok (.getfield 12, 3) := by decide +kernel
theorem dX4_leaves_38 : decode cX4_leaves 38 = .ok (.iload_n 1, 1) := by decide +kernel
theorem dX4_leaves_39 : decode cX4_leaves 39 = .ok (.iconst 0, 1) := by decide +kernel
theorem dX4_leaves_40 : decode cX4_leaves 40 = .ok (.invokevirtual 106, 3) := by decide +kernel
theorem dX4_leaves_43 : decode cX4_leaves 43 = .ok (.istore 4, 2) := by decide +kernel
theorem dX4_leaves_45 : decode cX4_leaves 45 = .ok (.iload_n 3, 1) := by decide +kernel
theorem dX4_leaves_46 : decode cX4_leaves 46 = .ok (.ifCond .ne 12, 3) := by decide +kernel
theorem dX4_leaves_49 : decode cX4_leaves 49 = .ok (.iload 4, 2) := by decide +kernel
theorem dX4_leaves_51 : decode cX4_leaves 51 = .ok (.iload_n 2, 1) := by decide +kernel
theorem dX4_leaves_52 : decode cX4_leaves 52 = .ok (.invokestatic 118, 3) := by decide +kernel
theorem dX4_leaves_55 : decode cX4_leaves 55 = .ok (.goto 9, 3) := by decide +kernel
theorem dX4_leaves_58 : decode cX4_leaves 58 = .ok (.iload 4, 2) := by decide +kernel
theorem dX4_leaves_60 : decode cX4_leaves 60 = .ok (.iload_n 2, 1) := by decide +kernel
theorem dX4_leaves_61 : decode cX4_leaves 61 = .ok (.invokestatic 123, 3) := by decide +kernel
theorem dX4_leaves_64 : decode cX4_leaves 64 = .ok (.ireturn, 1) := by decide +kernel
theorem dX4_go_0 : decode cX4_go 0 = .ok (.iload_n 1, 1) := by decide +kernel
theorem dX4_go_1 : decode cX4_go 1 = .ok (.iconst 1, 1) := by decide +kernel
theorem dX4_go_2 : decode cX4_go 2 = .ok (.bipush 60, 2) := by decide +kernel
theorem dX4_go_4 : decode cX4_go 4 = .ok (.invokestatic 99, 3) := by decide +kernel
theorem dX4_go_7 : decode cX4_go 7 = .ok (.ifCond .ne 10, 3) := by decide +kernel
theorem dX4_go_10 : decode cX4_go 10 = .ok (.aload_n 0, 1) := by decide +kernel
theorem dX4_go_11 : decode cX4_go 11 = .ok (.ldc 57, 2) := by decide +kernel
theorem dX4_go_13 : decode cX4_go 13 = .ok (.invokevirtual 58, 3) := by decide +kernel
theorem dX4_go_16 : decode cX4_go 16 = .ok (.ireturn, 1) := by decide +kernel
theorem dX4_go_17 : decode cX4_go 17 = .ok (.aload_n 0, 1) := by decide +kernel
theorem dX4_go_18 : decode cX4_go 18 = .ok (.getfield 12, 3) := by decide +kernel
theorem dX4_go_21 : decode cX4_go 21 = .ok (.getfield 126, 3) := by decide +kernel
theorem dX4_go_24 : decode cX4_go 24 = .ok (.ldc 130, 2) := by decide +kernel
theorem dX4_go_26 : decode cX4_go 26 = .ok (.iload_n 1, 1) := by decide +kernel
theorem dX4_go_27 : decode cX4_go 27 = .ok (.isub, 1) := by decide +kernel
theorem dX4_go_28 : decode cX4_go 28 = .ok (.if_icmp .le 10, 3) := by decide +kernel
theorem dX4_go_31 : decode cX4_go 31 = .ok (.aload_n 0, 1) := by decide +kernel
theorem dX4_go_32 : decode cX4_go 32 = .ok (.ldc 131, 2) := by decide +kernel
theorem dX4_go_34 : decode cX4_go 34 = .ok (.invokevirtual 58, 3) := by decide +kernel
theorem dX4_go_37 : decode cX4_go 37 = .ok (.ireturn, 1) := by decide +kernel
theorem dX4_go_38 : decode cX4_go 38 = .ok (.aload_n 0, 1) := by decide +kernel
theorem dX4_go_39 : decode cX4_go 39 = .ok (.getfield 12, 3) := by decide +kernel
theorem dX4_go_42 : decode cX4_go 42 = .ok (.iload_n 1, 1) := by decide +kernel
theorem dX4_go_43 : decode cX4_go 43 = .ok (.iconst 0, 1) := by decide +kernel
theorem dX4_go_44 : decode cX4_go 44 = .ok (.invokevirtual 132, 3) := by decide +kernel
theorem dX4_go_47 : decode cX4_go 47 = .ok (.aload_n 0, 1) := by decide +kernel
theorem dX4_go_48 : decode cX4_go 48 = .ok (.getfield 12, 3) := by decide +kernel
theorem dX4_go_51 : decode cX4_go 51 = .ok (.invokevirtual 136, 3) := by decide +kernel
theorem dX4_go_54 : decode cX4_go 54 = .ok (.ireturn, 1) := by decide +kernel
theorem dX4_now_0 : decode cX4_now 0 = .ok (.iload_n 1, 1) := by decide +kernel
theorem dX4_now_1 : decode cX4_now 1 = .ok (.tableswitch 87 0 5 #[39, 47, 55, 63, 71, 79], 39) := by decide +kernel
theorem dX4_now_40 : decode cX4_now 40 = .ok (.aload_n 0, 1) := by decide +kernel
theorem dX4_now_41 : decode cX4_now 41 = .ok (.getfield 12, 3) := by decide +kernel
theorem dX4_now_44 : decode cX4_now 44 = .ok (.getfield 126, 3) := by decide +kernel
theorem dX4_now_47 : decode cX4_now 47 = .ok (.ireturn, 1) := by decide +kernel
theorem dX4_now_48 : decode cX4_now 48 = .ok (.aload_n 0, 1) := by decide +kernel
theorem dX4_now_49 : decode cX4_now 49 = .ok (.getfield 12, 3) := by decide +kernel
theorem dX4_now_52 : decode cX4_now 52 = .ok (.invokevirtual 136, 3) := by decide +kernel
theorem dX4_now_55 : decode cX4_now 55 = .ok (.ireturn, 1) := by decide +kernel
theorem dX4_now_56 : decode cX4_now 56 = .ok (.aload_n 0, 1) := by decide +kernel
theorem dX4_now_57 : decode cX4_now 57 = .ok (.getfield 12, 3) := by decide +kernel
theorem dX4_now_60 : decode cX4_now 60 = .ok (.invokevirtual 140, 3) := by decide +kernel
theorem dX4_now_63 : decode cX4_now 63 = .ok (.ireturn, 1) := by decide +kernel
theorem dX4_now_64 : decode cX4_now 64 = .ok (.aload_n 0, 1) := by decide +kernel
theorem dX4_now_65 : decode cX4_now 65 = .ok (.getfield 12, 3) := by decide +kernel
theorem dX4_now_68 : decode cX4_now 68 = .ok (.invokevirtual 143, 3) := by decide +kernel
theorem dX4_now_71 : decode cX4_now 71 = .ok (.ireturn, 1) := by decide +kernel
theorem dX4_now_72 : decode cX4_now 72 = .ok (.aload_n 0, 1) := by decide +kernel
theorem dX4_now_73 : decode cX4_now 73 = .ok (.getfield 12, 3) := by decide +kernel
theorem dX4_now_76 : decode cX4_now 76 = .ok (.invokevirtual 146, 3) := by decide +kernel
theorem dX4_now_79 : decode cX4_now 79 = .ok (.ireturn, 1) := by decide +kernel
theorem dX4_now_80 : decode cX4_now 80 = .ok (.aload_n 0, 1) := by decide +kernel
theorem dX4_now_81 : decode cX4_now 81 = .ok (.getfield 12, 3) := by decide +kernel
theorem dX4_now_84 : decode cX4_now 84 = .ok (.invokevirtual 149, 3) := by decide +kernel
theorem dX4_now_87 : decode cX4_now 87 = .ok (.ireturn, 1) := by decide +kernel
theorem dX4_now_88 : decode cX4_now 88 = .ok (.aload_n 0, 1) := by decide +kernel
theorem dX4_now_89 : decode cX4_now 89 = .ok (.ldc 57, 2) := by decide +kernel
theorem dX4_now_91 : decode cX4_now 91 = .ok (.invokevirtual 58, 3) := by decide +kernel
theorem dX4_now_94 : decode cX4_now 94 = .ok (.ireturn, 1) := by decide +kernel
theorem dX4_ahead_0 : decode cX4_ahead 0 = .ok (.iload_n 1, 1) := by decide +kernel
theorem dX4_ahead_1 : decode cX4_ahead 1 = .ok (.invokestatic 47, 3) := by decide +kernel
theorem dX4_ahead_4 : decode cX4_ahead 4 = .ok (.ifCond .eq 20, 3) := by decide +kernel
theorem dX4_ahead_7 : decode cX4_ahead 7 = .ok (.iload_n 2, 1) := by decide +kernel
theorem dX4_ahead_8 : decode cX4_ahead 8 = .ok (.invokestatic 51, 3) := by decide +kernel
theorem dX4_ahead_11 : decode cX4_ahead 11 = .ok (.ifCond .eq 13, 3) := by decide +kernel
theorem dX4_ahead_14 : decode cX4_ahead 14 = .ok (.iload_n 3, 1) := by decide +kernel
theorem dX4_ahead_15 : decode cX4_ahead 15 = .ok (.iconst 0, 1) := by decide +kernel
theorem dX4_ahead_16 : decode cX4_ahead 16 = .ok (.bipush 100, 2) := by decide +kernel
theorem dX4_ahead_18 : decode cX4_ahead 18 = .ok (.invokestatic 99, 3) := by decide +kernel
theorem dX4_ahead_21 : decode cX4_ahead 21 = .ok (.ifCond .ne 10, 3) := by decide +kernel
theorem dX4_ahead_24 : decode cX4_ahead 24 = .ok (.aload_n 0, 1) := by decide +kernel
theorem dX4_ahead_25 : decode cX4_ahead 25 = .ok (.ldc 57, 2) := by decide +kernel
theorem dX4_ahead_27 : decode cX4_ahead 27 = .ok (.invokevirtual 58, 3) := by decide +kernel
theorem dX4_ahead_30 : decode cX4_ahead 30 = .ok (.ireturn, 1) := by decide +kernel
theorem dX4_ahead_31 : decode cX4_ahead 31 = .ok (.aload_n 0, 1) := by decide +kernel
theorem dX4_ahead_32 : decode cX4_ahead 32 = .ok (.iload_n 3, 1) := by decide +kernel
theorem dX4_ahead_33 : decode cX4_ahead 33 = .ok (.invokevirtual 152, 3) := by decide +kernel
theorem dX4_ahead_36 : decode cX4_ahead 36 = .ok (.aload_n 0, 1) := by decide +kernel
theorem dX4_ahead_37 : decode cX4_ahead 37 = .ok (.getfield 19, 3) := by decide +kernel
theorem dX4_ahead_40 : decode cX4_ahead 40 = .ok (.iload_n 1, 1) := by decide +kernel
theorem dX4_ahead_41 : decode cX4_ahead 41 = .ok (.iload_n 2, 1) := by decide +kernel
theorem dX4_ahead_42 : decode cX4_ahead 42 = .ok (.invokevirtual 62, 3) := by decide +kernel
theorem dX4_ahead_45 : decode cX4_ahead 45 = .ok (.ireturn, 1) := by decide +kernel
theorem dX4_says_0 : decode cX4_says 0 = .ok (.iload_n 1, 1) := by decide +kernel
theorem dX4_says_1 : decode cX4_says 1 = .ok (.invokestatic 47, 3) := by decide +kernel
theorem dX4_says_4 : decode cX4_says 4 = .ok (.ifCond .eq 13, 3) := by decide +kernel
theorem dX4_says_7 : decode cX4_says 7 = .ok (.iload_n 2, 1) := by decide +kernel
theorem dX4_says_8 : decode cX4_says 8 = .ok (.iconst 0, 1) := by decide +kernel
theorem dX4_says_9 : decode cX4_says 9 = .ok (.bipush 100, 2) := by decide +kernel
theorem dX4_says_11 : decode cX4_says 11 = .ok (.invokestatic 99, 3) := by decide +kernel
theorem dX4_says_14 : decode cX4_says 14 = .ok (.ifCond .ne 10, 3) := by decide +kernel
theorem dX4_says_17 : decode cX4_says 17 = .ok (.aload_n 0, 1) := by decide +kernel
theorem dX4_says_18 : decode cX4_says 18 = .ok (.ldc 57, 2) := by decide +kernel
theorem dX4_says_20 : decode cX4_says 20 = .ok (.invokevirtual 58, 3) := by decide +kernel
theorem dX4_says_23 : decode cX4_says 23 = .ok (.ireturn, 1) := by decide +kernel
theorem dX4_says_24 : decode cX4_says 24 = .ok (.aload_n 0, 1) := by decide +kernel
theorem dX4_says_25 : decode cX4_says 25 = .ok (.iload_n 2, 1) := by decide +kernel
theorem dX4_says_26 : decode cX4_says 26 = .ok (.invokevirtual 152, 3) := by decide +kernel
theorem dX4_says_29 : decode cX4_says 29 = .ok (.aload_n 0, 1) := by decide +kernel
theorem dX4_says_30 : decode cX4_says 30 = .ok (.getfield 19, 3) := by decide +kernel
theorem dX4_says_33 : decode cX4_says 33 = .ok (.iload_n 1, 1) := by decide +kernel
theorem dX4_says_34 : decode cX4_says 34 = .ok (.invokevirtual 70, 3) := by decide +kernel
theorem dX4_says_37 : decode cX4_says 37 = .ok (.ireturn, 1) := by decide +kernel
theorem dX4_fed_0 : decode cX4_fed 0 = .ok (.aload_n 0, 1) := by decide +kernel
theorem dX4_fed_1 : decode cX4_fed 1 = .ok (.iload_n 1, 1) := by decide +kernel
theorem dX4_fed_2 : decode cX4_fed 2 = .ok (.invokevirtual 96, 3) := by decide +kernel
theorem dX4_fed_5 : decode cX4_fed 5 = .ok (.ifCond .eq 13, 3) := by decide +kernel
theorem dX4_fed_8 : decode cX4_fed 8 = .ok (.iload_n 2, 1) := by decide +kernel
theorem dX4_fed_9 : decode cX4_fed 9 = .ok (.iconst 0, 1) := by decide +kernel
theorem dX4_fed_10 : decode cX4_fed 10 = .ok (.bipush 100, 2) := by decide +kernel
theorem dX4_fed_12 : decode cX4_fed 12 = .ok (.invokestatic 99, 3) := by decide +kernel
theorem dX4_fed_15 : decode cX4_fed 15 = .ok (.ifCond .ne 10, 3) := by decide +kernel
theorem dX4_fed_18 : decode cX4_fed 18 = .ok (.aload_n 0, 1) := by decide +kernel
theorem dX4_fed_19 : decode cX4_fed 19 = .ok (.ldc 57, 2) := by decide +kernel
theorem dX4_fed_21 : decode cX4_fed 21 = .ok (.invokevirtual 58, 3) := by decide +kernel
theorem dX4_fed_24 : decode cX4_fed 24 = .ok (.ireturn, 1) := by decide +kernel
theorem dX4_fed_25 : decode cX4_fed 25 = .ok (.aload_n 0, 1) := by decide +kernel
theorem dX4_fed_26 : decode cX4_fed 26 = .ok (.iload_n 2, 1) := by decide +kernel
theorem dX4_fed_27 : decode cX4_fed 27 = .ok (.invokevirtual 152, 3) := by decide +kernel
theorem dX4_fed_30 : decode cX4_fed 30 = .ok (.aload_n 0, 1) := by decide +kernel
theorem dX4_fed_31 : decode cX4_fed 31 = .ok (.getfield 19, 3) := by decide +kernel
theorem dX4_fed_34 : decode cX4_fed 34 = .ok (.iload_n 1, 1) := by decide +kernel
theorem dX4_fed_35 : decode cX4_fed 35 = .ok (.iconst 3, 1) := by decide +kernel
theorem dX4_fed_36 : decode cX4_fed 36 = .ok (.invokevirtual 106, 3) := by decide +kernel
theorem dX4_fed_39 : decode cX4_fed 39 = .ok (.ireturn, 1) := by decide +kernel
theorem dX4_bare_0 : decode cX4_bare 0 = .ok (.iload_n 1, 1) := by decide +kernel
theorem dX4_bare_1 : decode cX4_bare 1 = .ok (.invokestatic 47, 3) := by decide +kernel
theorem dX4_bare_4 : decode cX4_bare 4 = .ok (.ifCond .ne 10, 3) := by decide +kernel
theorem dX4_bare_7 : decode cX4_bare 7 = .ok (.aload_n 0, 1) := by decide +kernel
theorem dX4_bare_8 : decode cX4_bare 8 = .ok (.ldc 57, 2) := by decide +kernel
theorem dX4_bare_10 : decode cX4_bare 10 = .ok (.invokevirtual 58, 3) := by decide +kernel
theorem dX4_bare_13 : decode cX4_bare 13 = .ok (.ireturn, 1) := by decide +kernel
theorem dX4_bare_14 : decode cX4_bare 14 = .ok (.aload_n 0, 1) := by decide +kernel
theorem dX4_bare_15 : decode cX4_bare 15 = .ok (.iconst 0, 1) := by decide +kernel
theorem dX4_bare_16 : decode cX4_bare 16 = .ok (.iload_n 1, 1) := by decide +kernel
theorem dX4_bare_17 : decode cX4_bare 17 = .ok (.iconst 0, 1) := by decide +kernel
theorem dX4_bare_18 : decode cX4_bare 18 = .ok (.invokevirtual 156, 3) := by decide +kernel
theorem dX4_bare_21 : decode cX4_bare 21 = .ok (.ireturn, 1) := by decide +kernel
theorem dX4_when_0 : decode cX4_when 0 = .ok (.iload_n 1, 1) := by decide +kernel
theorem dX4_when_1 : decode cX4_when 1 = .ok (.invokestatic 47, 3) := by decide +kernel
theorem dX4_when_4 : decode cX4_when 4 = .ok (.ifCond .eq 14, 3) := by decide +kernel
theorem dX4_when_7 : decode cX4_when 7 = .ok (.iload_n 2, 1) := by decide +kernel
theorem dX4_when_8 : decode cX4_when 8 = .ok (.iconst 0, 1) := by decide +kernel
theorem dX4_when_9 : decode cX4_when 9 = .ok (.sipush 324, 3) := by decide +kernel
theorem dX4_when_12 : decode cX4_when 12 = .ok (.invokestatic 99, 3) := by decide +kernel
theorem dX4_when_15 : decode cX4_when 15 = .ok (.ifCond .ne 10, 3) := by decide +kernel
theorem dX4_when_18 : decode cX4_when 18 = .ok (.aload_n 0, 1) := by decide +kernel
theorem dX4_when_19 : decode cX4_when 19 = .ok (.ldc 57, 2) := by decide +kernel
theorem dX4_when_21 : decode cX4_when 21 = .ok (.invokevirtual 58, 3) := by decide +kernel
theorem dX4_when_24 : decode cX4_when 24 = .ok (.ireturn, 1) := by decide +kernel
theorem dX4_when_25 : decode cX4_when 25 = .ok (.aload_n 0, 1) := by decide +kernel
theorem dX4_when_26 : decode cX4_when 26 = .ok (.iconst 1, 1) := by decide +kernel
theorem dX4_when_27 : decode cX4_when 27 = .ok (.iload_n 1, 1) := by decide +kernel
theorem dX4_when_28 : decode cX4_when 28 = .ok (.iload_n 2, 1) := by decide +kernel
theorem dX4_when_29 : decode cX4_when 29 = .ok (.invokevirtual 156, 3) := by decide +kernel
theorem dX4_when_32 : decode cX4_when 32 = .ok (.ireturn, 1) := by decide +kernel
theorem dX4_settles_0 : decode cX4_settles 0 = .ok (.aload_n 0, 1) := by decide +kernel
theorem dX4_settles_1 : decode cX4_settles 1 = .ok (.iconst 2, 1) := by decide +kernel
theorem dX4_settles_2 : decode cX4_settles 2 = .ok (.iconst 0, 1) := by decide +kernel
theorem dX4_settles_3 : decode cX4_settles 3 = .ok (.iconst 0, 1) := by decide +kernel
theorem dX4_settles_4 : decode cX4_settles 4 = .ok (.invokevirtual 156, 3) := by decide +kernel
theorem dX4_settles_7 : decode cX4_settles 7 = .ok (.ireturn, 1) := by decide +kernel
theorem dX4_alike_0 : decode cX4_alike 0 = .ok (.iload_n 1, 1) := by decide +kernel
theorem dX4_alike_1 : decode cX4_alike 1 = .ok (.invokestatic 47, 3) := by decide +kernel
theorem dX4_alike_4 : decode cX4_alike 4 = .ok (.ifCond .eq 15, 3) := by decide +kernel
theorem dX4_alike_7 : decode cX4_alike 7 = .ok (.iload_n 2, 1) := by decide +kernel
theorem dX4_alike_8 : decode cX4_alike 8 = .ok (.invokestatic 47, 3) := by decide +kernel
theorem dX4_alike_11 : decode cX4_alike 11 = .ok (.ifCond .eq 8, 3) := by decide +kernel
theorem dX4_alike_14 : decode cX4_alike 14 = .ok (.iload_n 1, 1) := by decide +kernel
theorem dX4_alike_15 : decode cX4_alike 15 = .ok (.iload_n 2, 1) := by decide +kernel
theorem dX4_alike_16 : decode cX4_alike 16 = .ok (.if_icmp .ne 10, 3) := by decide +kernel
theorem dX4_alike_19 : decode cX4_alike 19 = .ok (.aload_n 0, 1) := by decide +kernel
theorem dX4_alike_20 : decode cX4_alike 20 = .ok (.ldc 57, 2) := by decide +kernel
theorem dX4_alike_22 : decode cX4_alike 22 = .ok (.invokevirtual 58, 3) := by decide +kernel
theorem dX4_alike_25 : decode cX4_alike 25 = .ok (.ireturn, 1) := by decide +kernel
theorem dX4_alike_26 : decode cX4_alike 26 = .ok (.aload_n 0, 1) := by decide +kernel
theorem dX4_alike_27 : decode cX4_alike 27 = .ok (.iconst 3, 1) := by decide +kernel
theorem dX4_alike_28 : decode cX4_alike 28 = .ok (.iload_n 1, 1) := by decide +kernel
theorem dX4_alike_29 : decode cX4_alike 29 = .ok (.iload_n 2, 1) := by decide +kernel
theorem dX4_alike_30 : decode cX4_alike 30 = .ok (.invokevirtual 156, 3) := by decide +kernel
theorem dX4_alike_33 : decode cX4_alike 33 = .ok (.ireturn, 1) := by decide +kernel
theorem dX4_put_0 : decode cX4_put 0 = .ok (.aload_n 0, 1) := by decide +kernel
theorem dX4_put_1 : decode cX4_put 1 = .ok (.iload_n 1, 1) := by decide +kernel
theorem dX4_put_2 : decode cX4_put 2 = .ok (.iconst 1, 1) := by decide +kernel
theorem dX4_put_3 : decode cX4_put 3 = .ok (.iload_n 2, 1) := by decide +kernel
theorem dX4_put_4 : decode cX4_put 4 = .ok (.iload_n 3, 1) := by decide +kernel
theorem dX4_put_5 : decode cX4_put 5 = .ok (.invokevirtual 160, 3) := by decide +kernel
theorem dX4_put_8 : decode cX4_put 8 = .ok (.ireturn, 1) := by decide +kernel
theorem dX4_tasteFor_0 : decode cX4_tasteFor 0 = .ok (.aload_n 0, 1) := by decide +kernel
theorem dX4_tasteFor_1 : decode cX4_tasteFor 1 = .ok (.iload_n 1, 1) := by decide +kernel
theorem dX4_tasteFor_2 : decode cX4_tasteFor 2 = .ok (.iconst 2, 1) := by decide +kernel
theorem dX4_tasteFor_3 : decode cX4_tasteFor 3 = .ok (.iload_n 2, 1) := by decide +kernel
theorem dX4_tasteFor_4 : decode cX4_tasteFor 4 = .ok (.iload_n 3, 1) := by decide +kernel
theorem dX4_tasteFor_5 : decode cX4_tasteFor 5 = .ok (.invokevirtual 160, 3) := by decide +kernel
theorem dX4_tasteFor_8 : decode cX4_tasteFor 8 = .ok (.ireturn, 1) := by decide +kernel
theorem dX4_kindFor_0 : decode cX4_kindFor 0 = .ok (.aload_n 0, 1) := by decide +kernel
theorem dX4_kindFor_1 : decode cX4_kindFor 1 = .ok (.iload_n 1, 1) := by decide +kernel
theorem dX4_kindFor_2 : decode cX4_kindFor 2 = .ok (.iconst 0, 1) := by decide +kernel
theorem dX4_kindFor_3 : decode cX4_kindFor 3 = .ok (.iload_n 2, 1) := by decide +kernel
theorem dX4_kindFor_4 : decode cX4_kindFor 4 = .ok (.iload_n 3, 1) := by decide +kernel
theorem dX4_kindFor_5 : decode cX4_kindFor 5 = .ok (.invokevirtual 160, 3) := by decide +kernel
theorem dX4_kindFor_8 : decode cX4_kindFor 8 = .ok (.ireturn, 1) := by decide +kernel
theorem dX4_swapFor_0 : decode cX4_swapFor 0 = .ok (.iload_n 1, 1) := by decide +kernel
theorem dX4_swapFor_1 : decode cX4_swapFor 1 = .ok (.invokestatic 47, 3) := by decide +kernel
theorem dX4_swapFor_4 : decode cX4_swapFor 4 = .ok (.ifCond .eq 13, 3) := by decide +kernel
theorem dX4_swapFor_7 : decode cX4_swapFor 7 = .ok (.iload_n 2, 1) := by decide +kernel
theorem dX4_swapFor_8 : decode cX4_swapFor 8 = .ok (.iconst 0, 1) := by decide +kernel
theorem dX4_swapFor_9 : decode cX4_swapFor 9 = .ok (.bipush 40, 2) := by decide +kernel
theorem dX4_swapFor_11 : decode cX4_swapFor 11 = .ok (.invokestatic 99, 3) := by decide +kernel
theorem dX4_swapFor_14 : decode cX4_swapFor 14 = .ok (.ifCond .ne 10, 3) := by decide +kernel
theorem dX4_swapFor_17 : decode cX4_swapFor 17 = .ok (.aload_n 0, 1) := by decide +kernel
theorem dX4_swapFor_18 : decode cX4_swapFor 18 = .ok (.ldc 57, 2) := by decide +kernel
theorem dX4_swapFor_20 : decode cX4_swapFor 20 = .ok (.invokevirtual 58, 3) := by decide +kernel
theorem dX4_swapFor_23 : decode cX4_swapFor 23 = .ok (.ireturn, 1) := by decide +kernel
theorem dX4_swapFor_24 : decode cX4_swapFor 24 = .ok (.aload_n 0, 1) := by decide +kernel
theorem dX4_swapFor_25 : decode cX4_swapFor 25 = .ok (.getfield 12, 3) := by decide +kernel
theorem dX4_swapFor_28 : decode cX4_swapFor 28 = .ok (.getfield 164, 3) := by decide +kernel
theorem dX4_swapFor_31 : decode cX4_swapFor 31 = .ok (.iconst 2, 1) := by decide +kernel
theorem dX4_swapFor_32 : decode cX4_swapFor 32 = .ok (.if_icmp .ge 10, 3) := by decide +kernel
theorem dX4_swapFor_35 : decode cX4_swapFor 35 = .ok (.aload_n 0, 1) := by decide +kernel
theorem dX4_swapFor_36 : decode cX4_swapFor 36 = .ok (.ldc 167, 2) := by decide +kernel
theorem dX4_swapFor_38 : decode cX4_swapFor 38 = .ok (.invokevirtual 58, 3) := by decide +kernel
theorem dX4_swapFor_41 : decode cX4_swapFor 41 = .ok (.ireturn, 1) := by decide +kernel
theorem dX4_swapFor_42 : decode cX4_swapFor 42 = .ok (.iconst 0, 1) := by decide +kernel
theorem dX4_swapFor_43 : decode cX4_swapFor 43 = .ok (.istore_n 3, 1) := by decide +kernel
theorem dX4_swapFor_44 : decode cX4_swapFor 44 = .ok (.iconst (-1), 1) := by decide +kernel
theorem dX4_swapFor_45 : decode cX4_swapFor 45 = .ok (.istore 4, 2) := by decide +kernel
theorem dX4_swapFor_47 : decode cX4_swapFor 47 = .ok (.iconst 0, 1) := by decide +kernel
theorem dX4_swapFor_48 : decode cX4_swapFor 48 = .ok (.istore 5, 2) := by decide +kernel
theorem dX4_swapFor_50 : decode cX4_swapFor 50 = .ok (.iload 5, 2) := by decide +kernel
theorem dX4_swapFor_52 : decode cX4_swapFor 52 = .ok (.aload_n 0, 1) := by decide +kernel
theorem dX4_swapFor_53 : decode cX4_swapFor 53 = .ok (.getfield 12, 3) := by decide +kernel
theorem dX4_swapFor_56 : decode cX4_swapFor 56 = .ok (.getfield 164, 3) := by decide +kernel
theorem dX4_swapFor_59 : decode cX4_swapFor 59 = .ok (.if_icmp .ge 94, 3) := by decide +kernel
theorem dX4_swapFor_62 : decode cX4_swapFor 62 = .ok (.iload 5, 2) := by decide +kernel
theorem dX4_swapFor_64 : decode cX4_swapFor 64 = .ok (.iconst 1, 1) := by decide +kernel
theorem dX4_swapFor_65 : decode cX4_swapFor 65 = .ok (.iadd, 1) := by decide +kernel
theorem dX4_swapFor_66 : decode cX4_swapFor 66 = .ok (.istore 6, 2) := by decide +kernel
theorem dX4_swapFor_68 : decode cX4_swapFor 68 = .ok (.iload 6, 2) := by decide +kernel
theorem dX4_swapFor_70 : decode cX4_swapFor 70 = .ok (.aload_n 0, 1) := by decide +kernel
theorem dX4_swapFor_71 : decode cX4_swapFor 71 = .ok (.getfield 12, 3) := by decide +kernel
theorem dX4_swapFor_74 : decode cX4_swapFor 74 = .ok (.getfield 164, 3) := by decide +kernel
theorem dX4_swapFor_77 : decode cX4_swapFor 77 = .ok (.if_icmp .ge 70, 3) := by decide +kernel
theorem dX4_swapFor_80 : decode cX4_swapFor 80 = .ok (.aload_n 0, 1) := by decide +kernel
theorem dX4_swapFor_81 : decode cX4_swapFor 81 = .ok (.getfield 19, 3) := by decide +kernel
theorem dX4_swapFor_84 : decode cX4_swapFor 84 = .ok (.aload_n 0, 1) := by decide +kernel
theorem dX4_swapFor_85 : decode cX4_swapFor 85 = .ok (.getfield 12, 3) := by decide +kernel
theorem dX4_swapFor_88 : decode cX4_swapFor 88 = .ok (.invokevirtual 168, 3) := by decide +kernel
theorem dX4_swapFor_91 : decode cX4_swapFor 91 = .ok (.aload_n 0, 1) := by decide +kernel
theorem dX4_swapFor_92 : decode cX4_swapFor 92 = .ok (.getfield 19, 3) := by decide +kernel
theorem dX4_swapFor_95 : decode cX4_swapFor 95 = .ok (.iload 5, 2) := by decide +kernel
theorem dX4_swapFor_97 : decode cX4_swapFor 97 = .ok (.iload 6, 2) := by decide +kernel
theorem dX4_swapFor_99 : decode cX4_swapFor 99 = .ok (.invokevirtual 172, 3) := by decide +kernel
theorem dX4_swapFor_102 : decode cX4_swapFor 102 = .ok (.aload_n 0, 1) := by decide +kernel
theorem dX4_swapFor_103 : decode cX4_swapFor 103 = .ok (.getfield 19, 3) := by decide +kernel
theorem dX4_swapFor_106 : decode cX4_swapFor 106 = .ok (.iload_n 2, 1) := by decide +kernel
theorem dX4_swapFor_107 : decode cX4_swapFor 107 = .ok (.iconst 0, 1) := by decide +kernel
theorem dX4_swapFor_108 : decode cX4_swapFor 108 = .ok (.invokevirtual 132, 3) := by decide +kernel
theorem dX4_swapFor_111 : decode cX4_swapFor 111 = .ok (.aload_n 0, 1) := by decide +kernel
theorem dX4_swapFor_112 : decode cX4_swapFor 112 = .ok (.getfield 19, 3) := by decide +kernel
theorem dX4_swapFor_115 : decode cX4_swapFor 115 = .ok (.iload_n 1, 1) := by decide +kernel
theorem dX4_swapFor_116 : decode cX4_swapFor 116 = .ok (.invokevirtual 70, 3) := by decide +kernel
theorem dX4_swapFor_119 : decode cX4_swapFor 119 = .ok (.istore 7, 2) := by decide +kernel
theorem dX4_swapFor_121 : decode cX4_swapFor 121 = .ok (.iload 7, 2) := by decide +kernel
theorem dX4_swapFor_123 : decode cX4_swapFor 123 = .ok (.iload 4, 2) := by decide +kernel
theorem dX4_swapFor_125 : decode cX4_swapFor 125 = .ok (.if_icmp .le 16, 3) := by decide +kernel
theorem dX4_swapFor_128 : decode cX4_swapFor 128 = .ok (.iload 7, 2) := by decide +kernel
theorem dX4_swapFor_130 : decode cX4_swapFor 130 = .ok (.istore 4, 2) := by decide +kernel
theorem dX4_swapFor_132 : decode cX4_swapFor 132 = .ok (.bipush 8, 2) := by decide +kernel
theorem dX4_swapFor_134 : decode cX4_swapFor 134 = .ok (.iload 5, 2) := by decide +kernel
theorem dX4_swapFor_136 : decode cX4_swapFor 136 = .ok (.imul, 1) := by decide +kernel
theorem dX4_swapFor_137 : decode cX4_swapFor 137 = .ok (.iload 6, 2) := by decide +kernel
theorem dX4_swapFor_139 : decode cX4_swapFor 139 = .ok (.iadd, 1) := by decide +kernel
theorem dX4_swapFor_140 : decode cX4_swapFor 140 = .ok (.istore_n 3, 1) := by decide +kernel
theorem dX4_swapFor_141 : decode cX4_swapFor 141 = .ok (.iinc 6 1, 3) := by decide +kernel
theorem dX4_swapFor_144 : decode cX4_swapFor 144 = .ok (.goto (-76), 3) := by decide +kernel
theorem dX4_swapFor_147 : decode cX4_swapFor 147 = .ok (.iinc 5 1, 3) := by decide +kernel
theorem dX4_swapFor_150 : decode cX4_swapFor 150 = .ok (.goto (-100), 3) := by decide +kernel
theorem dX4_swapFor_153 : decode cX4_swapFor 153 = .ok (.iload_n 3, 1) := by decide +kernel
theorem dX4_swapFor_154 : decode cX4_swapFor 154 = .ok (.ireturn, 1) := by decide +kernel
theorem dX4_out_0 : decode cX4_out 0 = .ok (.iload_n 1, 1) := by decide +kernel
theorem dX4_out_1 : decode cX4_out 1 = .ok (.invokestatic 47, 3) := by decide +kernel
theorem dX4_out_4 : decode cX4_out 4 = .ok (.ifCond .eq 13, 3) := by decide +kernel
theorem dX4_out_7 : decode cX4_out 7 = .ok (.iload_n 2, 1) := by decide +kernel
theorem dX4_out_8 : decode cX4_out 8 = .ok (.iconst 0, 1) := by decide +kernel
theorem dX4_out_9 : decode cX4_out 9 = .ok (.bipush 20, 2) := by decide +kernel
theorem dX4_out_11 : decode cX4_out 11 = .ok (.invokestatic 99, 3) := by decide +kernel
theorem dX4_out_14 : decode cX4_out 14 = .ok (.ifCond .ne 10, 3) := by decide +kernel
theorem dX4_out_17 : decode cX4_out 17 = .ok (.aload_n 0, 1) := by decide +kernel
theorem dX4_out_18 : decode cX4_out 18 = .ok (.ldc 57, 2) := by decide +kernel
theorem dX4_out_20 : decode cX4_out 20 = .ok (.invokevirtual 58, 3) := by decide +kernel
theorem dX4_out_23 : decode cX4_out 23 = .ok (.ireturn, 1) := by decide +kernel
theorem dX4_out_24 : decode cX4_out 24 = .ok (.aload_n 0, 1) := by decide +kernel
theorem dX4_out_25 : decode cX4_out 25 = .ok (.getfield 12, 3) := by decide +kernel
theorem dX4_out_28 : decode cX4_out 28 = .ok (.iload_n 1, 1) := by decide +kernel
theorem dX4_out_29 : decode cX4_out 29 = .ok (.invokevirtual 76, 3) := by decide +kernel
theorem dX4_out_32 : decode cX4_out 32 = .ok (.istore_n 3, 1) := by decide +kernel
theorem dX4_out_33 : decode cX4_out 33 = .ok (.iconst 0, 1) := by decide +kernel
theorem dX4_out_34 : decode cX4_out 34 = .ok (.istore 4, 2) := by decide +kernel
theorem dX4_out_36 : decode cX4_out 36 = .ok (.iload 4, 2) := by decide +kernel
theorem dX4_out_38 : decode cX4_out 38 = .ok (.iload_n 3, 1) := by decide +kernel
theorem dX4_out_39 : decode cX4_out 39 = .ok (.invokestatic 175, 3) := by decide +kernel
theorem dX4_out_42 : decode cX4_out 42 = .ok (.if_icmp .ge 69, 3) := by decide +kernel
theorem dX4_out_45 : decode cX4_out 45 = .ok (.iconst 0, 1) := by decide +kernel
theorem dX4_out_46 : decode cX4_out 46 = .ok (.istore 5, 2) := by decide +kernel
theorem dX4_out_48 : decode cX4_out 48 = .ok (.iload 5, 2) := by decide +kernel
theorem dX4_out_50 : decode cX4_out 50 = .ok (.iload_n 3, 1) := by decide +kernel
theorem dX4_out_51 : decode cX4_out 51 = .ok (.if_icmp .ge 54, 3) := by decide +kernel
theorem dX4_out_54 : decode cX4_out 54 = .ok (.iload 5, 2) := by decide +kernel
theorem dX4_out_56 : decode cX4_out 56 = .ok (.iload_n 3, 1) := by decide +kernel
theorem dX4_out_57 : decode cX4_out 57 = .ok (.iconst (-1), 1) := by decide +kernel
theorem dX4_out_58 : decode cX4_out 58 = .ok (.ixor, 1) := by decide +kernel
theorem dX4_out_59 : decode cX4_out 59 = .ok (.iand, 1) := by decide +kernel
theorem dX4_out_60 : decode cX4_out 60 = .ok (.ifCond .ne 17, 3) := by decide +kernel
theorem dX4_out_63 : decode cX4_out 63 = .ok (.iload 5, 2) := by decide +kernel
theorem dX4_out_65 : decode cX4_out 65 = .ok (.invokestatic 175, 3) := by decide +kernel
theorem dX4_out_68 : decode cX4_out 68 = .ok (.iload 4, 2) := by decide +kernel
theorem dX4_out_70 : decode cX4_out 70 = .ok (.if_icmp .ne 7, 3) := by decide +kernel
theorem dX4_out_73 : decode cX4_out 73 = .ok (.iconst 1, 1) := by decide +kernel
theorem dX4_out_74 : decode cX4_out 74 = .ok (.goto 4, 3) := by decide +kernel
theorem dX4_out_77 : decode cX4_out 77 = .ok (.iconst 0, 1) := by decide +kernel
theorem dX4_out_78 : decode cX4_out 78 = .ok (.istore 6, 2) := by decide +kernel
theorem dX4_out_80 : decode cX4_out 80 = .ok (.iload 6, 2) := by decide +kernel
theorem dX4_out_82 : decode cX4_out 82 = .ok (.ifCond .eq 17, 3) := by decide +kernel
theorem dX4_out_85 : decode cX4_out 85 = .ok (.aload_n 0, 1) := by decide +kernel
theorem dX4_out_86 : decode cX4_out 86 = .ok (.iload 5, 2) := by decide +kernel
theorem dX4_out_88 : decode cX4_out 88 = .ok (.iload_n 1, 1) := by decide +kernel
theorem dX4_out_89 : decode cX4_out 89 = .ok (.iload_n 2, 1) := by decide +kernel
theorem dX4_out_90 : decode cX4_out 90 = .ok (.invokevirtual 180, 3) := by decide +kernel
theorem dX4_out_93 : decode cX4_out 93 = .ok (.ifCond .eq 6, 3) := by decide +kernel
theorem dX4_out_96 : decode cX4_out 96 = .ok (.iload 5, 2) := by decide +kernel
theorem dX4_out_98 : decode cX4_out 98 = .ok (.ireturn, 1) := by decide +kernel
theorem dX4_out_99 : decode cX4_out 99 = .ok (.iinc 5 1, 3) := by decide +kernel
theorem dX4_out_102 : decode cX4_out 102 = .ok (.goto (-54), 3) := by decide +kernel
theorem dX4_out_105 : decode cX4_out 105 = .ok (.iinc 4 1, 3) := by decide +kernel
theorem dX4_out_108 : decode cX4_out 108 = .ok (.goto (-72), 3) := by decide +kernel
theorem dX4_out_111 : decode cX4_out 111 = .ok (.iload_n 3, 1) := by decide +kernel
theorem dX4_out_112 : decode cX4_out 112 = .ok (.ireturn, 1) := by decide +kernel
theorem dX4_fits_0 : decode cX4_fits 0 = .ok (.iload_n 1, 1) := by decide +kernel
theorem dX4_fits_1 : decode cX4_fits 1 = .ok (.invokestatic 183, 3) := by decide +kernel
theorem dX4_fits_4 : decode cX4_fits 4 = .ok (.ifCond .ne 10, 3) := by decide +kernel
theorem dX4_fits_7 : decode cX4_fits 7 = .ok (.aload_n 0, 1) := by decide +kernel
theorem dX4_fits_8 : decode cX4_fits 8 = .ok (.ldc 57, 2) := by decide +kernel
theorem dX4_fits_10 : decode cX4_fits 10 = .ok (.invokevirtual 58, 3) := by decide +kernel
theorem dX4_fits_13 : decode cX4_fits 13 = .ok (.ireturn, 1) := by decide +kernel
theorem dX4_fits_14 : decode cX4_fits 14 = .ok (.aload_n 0, 1) := by decide +kernel
theorem dX4_fits_15 : decode cX4_fits 15 = .ok (.getfield 34, 3) := by decide +kernel
theorem dX4_fits_18 : decode cX4_fits 18 = .ok (.iload_n 1, 1) := by decide +kernel
theorem dX4_fits_19 : decode cX4_fits 19 = .ok (.aaload, 1) := by decide +kernel
theorem dX4_fits_20 : decode cX4_fits 20 = .ok (.invokevirtual 186, 3) := by decide +kernel
theorem dX4_fits_23 : decode cX4_fits 23 = .ok (.ifCond .eq 10, 3) := by decide +kernel
theorem dX4_fits_26 : decode cX4_fits 26 = .ok (.aload_n 0, 1) := by decide +kernel
theorem dX4_fits_27 : decode cX4_fits 27 = .ok (.ldc 189, 2) := by decide +kernel
theorem dX4_fits_29 : decode cX4_fits 29 = .ok (.invokevirtual 58, 3) := by decide +kernel
theorem dX4_fits_32 : decode cX4_fits 32 = .ok (.ireturn, 1) := by decide +kernel
theorem dX4_fits_33 : decode cX4_fits 33 = .ok (.iload_n 2, 1) := by decide +kernel
theorem dX4_fits_34 : decode cX4_fits 34 = .ok (.invokestatic 47, 3) := by decide +kernel
theorem dX4_fits_37 : decode cX4_fits 37 = .ok (.ifCond .eq 21, 3) := by decide +kernel
theorem dX4_fits_40 : decode cX4_fits 40 = .ok (.iload_n 3, 1) := by decide +kernel
theorem dX4_fits_41 : decode cX4_fits 41 = .ok (.invokestatic 51, 3) := by decide +kernel
theorem dX4_fits_44 : decode cX4_fits 44 = .ok (.ifCond .eq 14, 3) := by decide +kernel
theorem dX4_fits_47 : decode cX4_fits 47 = .ok (.iload 4, 2) := by decide +kernel
theorem dX4_fits_49 : decode cX4_fits 49 = .ok (.iconst 0, 1) := by decide +kernel
theorem dX4_fits_50 : decode cX4_fits 50 = .ok (.bipush 20, 2) := by decide +kernel
theorem dX4_fits_52 : decode cX4_fits 52 = .ok (.invokestatic 99, 3) := by decide +kernel
theorem dX4_fits_55 : decode cX4_fits 55 = .ok (.ifCond .ne 10, 3) := by decide +kernel
theorem dX4_fits_58 : decode cX4_fits 58 = .ok (.aload_n 0, 1) := by decide +kernel
theorem dX4_fits_59 : decode cX4_fits 59 = .ok (.ldc 57, 2) := by decide +kernel
theorem dX4_fits_61 : decode cX4_fits 61 = .ok (.invokevirtual 58, 3) := by decide +kernel
theorem dX4_fits_64 : decode cX4_fits 64 = .ok (.ireturn, 1) := by decide +kernel
theorem dX4_fits_65 : decode cX4_fits 65 = .ok (.iconst 0, 1) := by decide +kernel
theorem dX4_fits_66 : decode cX4_fits 66 = .ok (.istore 5, 2) := by decide +kernel
theorem dX4_fits_68 : decode cX4_fits 68 = .ok (.iconst 0, 1) := by decide +kernel
theorem dX4_fits_69 : decode cX4_fits 69 = .ok (.istore 6, 2) := by decide +kernel
theorem dX4_fits_71 : decode cX4_fits 71 = .ok (.iload 6, 2) := by decide +kernel
theorem dX4_fits_73 : decode cX4_fits 73 = .ok (.bipush 9, 2) := by decide +kernel
theorem dX4_fits_75 : decode cX4_fits 75 = .ok (.if_icmp .gt 64, 3) := by decide +kernel
theorem dX4_fits_78 : decode cX4_fits 78 = .ok (.aload_n 0, 1) := by decide +kernel
theorem dX4_fits_79 : decode cX4_fits 79 = .ok (.getfield 19, 3) := by decide +kernel
theorem dX4_fits_82 : decode cX4_fits 82 = .ok (.aload_n 0, 1) := by decide +kernel
theorem dX4_fits_83 : decode cX4_fits 83 = .ok (.getfield 12, 3) := by decide +kernel
theorem dX4_fits_86 : decode cX4_fits 86 = .ok (.invokevirtual 168, 3) := by decide +kernel
theorem dX4_fits_89 : decode cX4_fits 89 = .ok (.aload_n 0, 1) := by decide +kernel
theorem dX4_fits_90 : decode cX4_fits 90 = .ok (.getfield 19, 3) := by decide +kernel
theorem dX4_fits_93 : decode cX4_fits 93 = .ok (.iload_n 2, 1) := by decide +kernel
theorem dX4_fits_94 : decode cX4_fits 94 = .ok (.iload_n 3, 1) := by decide +kernel
theorem dX4_fits_95 : decode cX4_fits 95 = .ok (.iload 6, 2) := by decide +kernel
theorem dX4_fits_97 : decode cX4_fits 97 = .ok (.invokevirtual 66, 3) := by decide +kernel
theorem dX4_fits_100 : decode cX4_fits 100 = .ok (.aload_n 0, 1) := by decide +kernel
theorem dX4_fits_101 : decode cX4_fits 101 = .ok (.getfield 19, 3) := by decide +kernel
theorem dX4_fits_104 : decode cX4_fits 104 = .ok (.iload 4, 2) := by decide +kernel
theorem dX4_fits_106 : decode cX4_fits 106 = .ok (.iconst 0, 1) := by decide +kernel
theorem dX4_fits_107 : decode cX4_fits 107 = .ok (.invokevirtual 132, 3) := by decide +kernel
theorem dX4_fits_110 : decode cX4_fits 110 = .ok (.aload_n 0, 1) := by decide +kernel
theorem dX4_fits_111 : decode cX4_fits 111 = .ok (.aload_n 0, 1) := by decide +kernel
theorem dX4_fits_112 : decode cX4_fits 112 = .ok (.getfield 34, 3) := by decide +kernel
theorem dX4_fits_115 : decode cX4_fits 115 = .ok (.iload_n 1, 1) := by decide +kernel
theorem dX4_fits_116 : decode cX4_fits 116 = .ok (.aaload, 1) := by decide +kernel
theorem dX4_fits_117 : decode cX4_fits 117 = .ok (.iload_n 2, 1) := by decide +kernel
theorem dX4_fits_118 : decode cX4_fits 118 = .ok (.invokevirtual 190, 3) := by decide +kernel
theorem dX4_fits_121 : decode cX4_fits 121 = .ok (.ifCond .eq 12, 3) := by decide +kernel
theorem dX4_fits_124 : decode cX4_fits 124 = .ok (.iload 5, 2) := by decide +kernel
theorem dX4_fits_126 : decode cX4_fits 126 = .ok (.iconst 1, 1) := by decide +kernel
theorem dX4_fits_127 : decode cX4_fits 127 = .ok (.iload 6, 2) := by decide +kernel
theorem dX4_fits_129 : decode cX4_fits 129 = .ok (.ishl, 1) := by decide +kernel
theorem dX4_fits_130 : decode cX4_fits 130 = .ok (.ior, 1) := by decide +kernel
theorem dX4_fits_131 : decode cX4_fits 131 = .ok (.istore 5, 2) := by decide +kernel
theorem dX4_fits_133 : decode cX4_fits 133 = .ok (.iinc 6 1, 3) := by decide +kernel
theorem dX4_fits_136 : decode cX4_fits 136 = .ok (.goto (-65), 3) := by decide +kernel
theorem dX4_fits_139 : decode cX4_fits 139 = .ok (.iload 5, 2) := by decide +kernel
theorem dX4_fits_141 : decode cX4_fits 141 = .ok (.ireturn, 1) := by decide +kernel
theorem dX4_kinds_0 : decode cX4_kinds 0 = .ok (.iload_n 1, 1) := by decide +kernel
theorem dX4_kinds_1 : decode cX4_kinds 1 = .ok (.invokestatic 183, 3) := by decide +kernel
theorem dX4_kinds_4 : decode cX4_kinds 4 = .ok (.ifCond .ne 10, 3) := by decide +kernel
theorem dX4_kinds_7 : decode cX4_kinds 7 = .ok (.aload_n 0, 1) := by decide +kernel
theorem dX4_kinds_8 : decode cX4_kinds 8 = .ok (.ldc 57, 2) := by decide +kernel
theorem dX4_kinds_10 : decode cX4_kinds 10 = .ok (.invokevirtual 58, 3) := by decide +kernel
theorem dX4_kinds_13 : decode cX4_kinds 13 = .ok (.ireturn, 1) := by decide +kernel
theorem dX4_kinds_14 : decode cX4_kinds 14 = .ok (.aload_n 0, 1) := by decide +kernel
theorem dX4_kinds_15 : decode cX4_kinds 15 = .ok (.getfield 34, 3) := by decide +kernel
theorem dX4_kinds_18 : decode cX4_kinds 18 = .ok (.iload_n 1, 1) := by decide +kernel
theorem dX4_kinds_19 : decode cX4_kinds 19 = .ok (.aaload, 1) := by decide +kernel
theorem dX4_kinds_20 : decode cX4_kinds 20 = .ok (.invokevirtual 186, 3) := by decide +kernel
theorem dX4_kinds_23 : decode cX4_kinds 23 = .ok (.ifCond .eq 10, 3) := by decide +kernel
theorem dX4_kinds_26 : decode cX4_kinds 26 = .ok (.aload_n 0, 1) := by decide +kernel
theorem dX4_kinds_27 : decode cX4_kinds 27 = .ok (.ldc 189, 2) := by decide +kernel
theorem dX4_kinds_29 : decode cX4_kinds 29 = .ok (.invokevirtual 58, 3) := by decide +kernel
theorem dX4_kinds_32 : decode cX4_kinds 32 = .ok (.ireturn, 1) := by decide +kernel
theorem dX4_kinds_33 : decode cX4_kinds 33 = .ok (.aload_n 0, 1) := by decide +kernel
theorem dX4_kinds_34 : decode cX4_kinds 34 = .ok (.iload_n 2, 1) := by decide +kernel
theorem dX4_kinds_35 : decode cX4_kinds 35 = .ok (.invokevirtual 96, 3) := by decide +kernel
theorem dX4_kinds_38 : decode cX4_kinds 38 = .ok (.ifCond .ne 10, 3) := by decide +kernel
theorem dX4_kinds_41 : decode cX4_kinds 41 = .ok (.aload_n 0, 1) := by decide +kernel
theorem dX4_kinds_42 : decode cX4_kinds 42 = .ok (.ldc 57, 2) := by decide +kernel
theorem dX4_kinds_44 : decode cX4_kinds 44 = .ok (.invokevirtual 58, 3) := by decide +kernel
theorem dX4_kinds_47 : decode cX4_kinds 47 = .ok (.ireturn, 1) := by decide +kernel
theorem dX4_kinds_48 : decode cX4_kinds 48 = .ok (.iconst 0, 1) := by decide +kernel
theorem dX4_kinds_49 : decode cX4_kinds 49 = .ok (.istore_n 3, 1) := by decide +kernel
theorem dX4_kinds_50 : decode cX4_kinds 50 = .ok (.iconst 0, 1) := by decide +kernel
theorem dX4_kinds_51 : decode cX4_kinds 51 = .ok (.istore 4, 2) := by decide +kernel
theorem dX4_kinds_53 : decode cX4_kinds 53 = .ok (.iload 4, 2) := by decide +kernel
theorem dX4_kinds_55 : decode cX4_kinds 55 = .ok (.bipush 7, 2) := by decide +kernel
theorem dX4_kinds_57 : decode cX4_kinds 57 = .ok (.if_icmp .ge 52, 3) := by decide +kernel
theorem dX4_kinds_60 : decode cX4_kinds 60 = .ok (.aload_n 0, 1) := by decide +kernel
theorem dX4_kinds_61 : decode cX4_kinds 61 = .ok (.getfield 19, 3) := by decide +kernel
theorem dX4_kinds_64 : decode cX4_kinds 64 = .ok (.aload_n 0, 1) := by decide +kernel
theorem dX4_kinds_65 : decode cX4_kinds 65 = .ok (.getfield 12, 3) := by decide +kernel
theorem dX4_kinds_68 : decode cX4_kinds 68 = .ok (.invokevirtual 168, 3) := by decide +kernel
theorem dX4_kinds_71 : decode cX4_kinds 71 = .ok (.aload_n 0, 1) := by decide +kernel
theorem dX4_kinds_72 : decode cX4_kinds 72 = .ok (.getfield 19, 3) := by decide +kernel
theorem dX4_kinds_75 : decode cX4_kinds 75 = .ok (.iload_n 2, 1) := by decide +kernel
theorem dX4_kinds_76 : decode cX4_kinds 76 = .ok (.iconst 0, 1) := by decide +kernel
theorem dX4_kinds_77 : decode cX4_kinds 77 = .ok (.iload 4, 2) := by decide +kernel
theorem dX4_kinds_79 : decode cX4_kinds 79 = .ok (.invokevirtual 115, 3) := by decide +kernel
theorem dX4_kinds_82 : decode cX4_kinds 82 = .ok (.aload_n 0, 1) := by decide +kernel
theorem dX4_kinds_83 : decode cX4_kinds 83 = .ok (.aload_n 0, 1) := by decide +kernel
theorem dX4_kinds_84 : decode cX4_kinds 84 = .ok (.getfield 34, 3) := by decide +kernel
theorem dX4_kinds_87 : decode cX4_kinds 87 = .ok (.iload_n 1, 1) := by decide +kernel
theorem dX4_kinds_88 : decode cX4_kinds 88 = .ok (.aaload, 1) := by decide +kernel
theorem dX4_kinds_89 : decode cX4_kinds 89 = .ok (.iload_n 2, 1) := by decide +kernel
theorem dX4_kinds_90 : decode cX4_kinds 90 = .ok (.invokevirtual 194, 3) := by decide +kernel
theorem dX4_kinds_93 : decode cX4_kinds 93 = .ok (.ifCond .eq 10, 3) := by decide +kernel
theorem dX4_kinds_96 : decode cX4_kinds 96 = .ok (.iload_n 3, 1) := by decide +kernel
theorem dX4_kinds_97 : decode cX4_kinds 97 = .ok (.iconst 1, 1) := by decide +kernel
theorem dX4_kinds_98 : decode cX4_kinds 98 = .ok (.iload 4, 2) := by decide +kernel
theorem dX4_kinds_100 : decode cX4_kinds 100 = .ok (.ishl, 1) := by decide +kernel
theorem dX4_kinds_101 : decode cX4_kinds 101 = .ok (.ior, 1) := by decide +kernel
theorem dX4_kinds_102 : decode cX4_kinds 102 = .ok (.istore_n 3, 1) := by decide +kernel
theorem dX4_kinds_103 : decode cX4_kinds 103 = .ok (.iinc 4 1, 3) := by decide +kernel
theorem dX4_kinds_106 : decode cX4_kinds 106 = .ok (.goto (-53), 3) := by decide +kernel
theorem dX4_kinds_109 : decode cX4_kinds 109 = .ok (.iload_n 3, 1) := by decide +kernel
theorem dX4_kinds_110 : decode cX4_kinds 110 = .ok (.ireturn, 1) := by decide +kernel
theorem dX4_lights_0 : decode cX4_lights 0 = .ok (.iload_n 1, 1) := by decide +kernel
theorem dX4_lights_1 : decode cX4_lights 1 = .ok (.iconst 1, 1) := by decide +kernel
theorem dX4_lights_2 : decode cX4_lights 2 = .ok (.bipush 20, 2) := by decide +kernel
theorem dX4_lights_4 : decode cX4_lights 4 = .ok (.invokestatic 99, 3) := by decide +kernel
theorem dX4_lights_7 : decode cX4_lights 7 = .ok (.ifCond .ne 10, 3) := by decide +kernel
theorem dX4_lights_10 : decode cX4_lights 10 = .ok (.aload_n 0, 1) := by decide +kernel
theorem dX4_lights_11 : decode cX4_lights 11 = .ok (.ldc 57, 2) := by decide +kernel
theorem dX4_lights_13 : decode cX4_lights 13 = .ok (.invokevirtual 58, 3) := by decide +kernel
theorem dX4_lights_16 : decode cX4_lights 16 = .ok (.ireturn, 1) := by decide +kernel
theorem dX4_lights_17 : decode cX4_lights 17 = .ok (.aload_n 0, 1) := by decide +kernel
theorem dX4_lights_18 : decode cX4_lights 18 = .ok (.getfield 12, 3) := by decide +kernel
theorem dX4_lights_21 : decode cX4_lights 21 = .ok (.getfield 126, 3) := by decide +kernel
theorem dX4_lights_24 : decode cX4_lights 24 = .ok (.ldc 130, 2) := by decide +kernel
theorem dX4_lights_26 : decode cX4_lights 26 = .ok (.iload_n 1, 1) := by decide +kernel
theorem dX4_lights_27 : decode cX4_lights 27 = .ok (.isub, 1) := by decide +kernel
theorem dX4_lights_28 : decode cX4_lights 28 = .ok (.if_icmp .le 10, 3) := by decide +kernel
theorem dX4_lights_31 : decode cX4_lights 31 = .ok (.aload_n 0, 1) := by decide +kernel
theorem dX4_lights_32 : decode cX4_lights 32 = .ok (.ldc 131, 2) := by decide +kernel
theorem dX4_lights_34 : decode cX4_lights 34 = .ok (.invokevirtual 58, 3) := by decide +kernel
theorem dX4_lights_37 : decode cX4_lights 37 = .ok (.ireturn, 1) := by decide +kernel
theorem dX4_lights_38 : decode cX4_lights 38 = .ok (.iconst 0, 1) := by decide +kernel
theorem dX4_lights_39 : decode cX4_lights 39 = .ok (.istore_n 2, 1) := by decide +kernel
theorem dX4_lights_40 : decode cX4_lights 40 = .ok (.iload_n 2, 1) := by decide +kernel
theorem dX4_lights_41 : decode cX4_lights 41 = .ok (.iload_n 1, 1) := by decide +kernel
theorem dX4_lights_42 : decode cX4_lights 42 = .ok (.if_icmp .ge 25, 3) := by decide +kernel
theorem dX4_lights_45 : decode cX4_lights 45 = .ok (.aload_n 0, 1) := by decide +kernel
theorem dX4_lights_46 : decode cX4_lights 46 = .ok (.getfield 12, 3) := by decide +kernel
theorem dX4_lights_49 : decode cX4_lights 49 = .ok (.invokevirtual 197, 3) := by decide +kernel
theorem dX4_lights_52 : decode cX4_lights 52 = .ok (.aload_n 0, 1) := by decide +kernel
theorem dX4_lights_53 : decode cX4_lights 53 = .ok (.getfield 12, 3) := by decide +kernel
theorem dX4_lights_56 : decode cX4_lights 56 = .ok (.iconst 1, 1) := by decide +kernel
theorem dX4_lights_57 : decode cX4_lights 57 = .ok (.iconst 0, 1) := by decide +kernel
theorem dX4_lights_58 : decode cX4_lights 58 = .ok (.invokevirtual 132, 3) := by decide +kernel
theorem dX4_lights_61 : decode cX4_lights 61 = .ok (.iinc 2 1, 3) := by decide +kernel
theorem dX4_lights_64 : decode cX4_lights 64 = .ok (.goto (-24), 3) := by decide +kernel
theorem dX4_lights_67 : decode cX4_lights 67 = .ok (.aload_n 0, 1) := by decide +kernel
theorem dX4_lights_68 : decode cX4_lights 68 = .ok (.getfield 12, 3) := by decide +kernel
theorem dX4_lights_71 : decode cX4_lights 71 = .ok (.invokevirtual 136, 3) := by decide +kernel
theorem dX4_lights_74 : decode cX4_lights 74 = .ok (.ireturn, 1) := by decide +kernel
theorem dX4_odds_0 : decode cX4_odds 0 = .ok (.iload_n 1, 1) := by decide +kernel
theorem dX4_odds_1 : decode cX4_odds 1 = .ok (.iconst 0, 1) := by decide +kernel
theorem dX4_odds_2 : decode cX4_odds 2 = .ok (.bipush 23, 2) := by decide +kernel
theorem dX4_odds_4 : decode cX4_odds 4 = .ok (.invokestatic 99, 3) := by decide +kernel
theorem dX4_odds_7 : decode cX4_odds 7 = .ok (.ifCond .eq 12, 3) := by decide +kernel
theorem dX4_odds_10 : decode cX4_odds 10 = .ok (.iload_n 2, 1) := by decide +kernel
theorem dX4_odds_11 : decode cX4_odds 11 = .ok (.iconst 0, 1) := by decide +kernel
theorem dX4_odds_12 : decode cX4_odds 12 = .ok (.iconst 1, 1) := by decide +kernel
theorem dX4_odds_13 : decode cX4_odds 13 = .ok (.invokestatic 99, 3) := by decide +kernel
theorem dX4_odds_16 : decode cX4_odds 16 = .ok (.ifCond .ne 11, 3) := by decide +kernel
theorem dX4_odds_19 : decode cX4_odds 19 = .ok (.aload_n 0, 1) := by decide +kernel
theorem dX4_odds_20 : decode cX4_odds 20 = .ok (.ldc 57, 2) := by decide +kernel
theorem dX4_odds_22 : decode cX4_odds 22 = .ok (.invokevirtual 58, 3) := by decide +kernel
theorem dX4_odds_25 : decode cX4_odds 25 = .ok (.i2l, 1) := by decide +kernel
theorem dX4_odds_26 : decode cX4_odds 26 = .ok (.lreturn, 1) := by decide +kernel
theorem dX4_odds_27 : decode cX4_odds 27 = .ok (.bipush 6, 2) := by decide +kernel
theorem dX4_odds_29 : decode cX4_odds 29 = .ok (.aload_n 0, 1) := by decide +kernel
theorem dX4_odds_30 : decode cX4_odds 30 = .ok (.getfield 12, 3) := by decide +kernel
theorem dX4_odds_33 : decode cX4_odds 33 = .ok (.invokevirtual 149, 3) := by decide +kernel
theorem dX4_odds_36 : decode cX4_odds 36 = .ok (.invokestatic 175, 3) := by decide +kernel
theorem dX4_odds_39 : decode cX4_odds 39 = .ok (.isub, 1) := by decide +kernel
theorem dX4_odds_40 : decode cX4_odds 40 = .ok (.istore_n 3, 1) := by decide +kernel
theorem dX4_odds_41 : decode cX4_odds 41 = .ok (.iload_n 3, 1) := by decide +kernel
theorem dX4_odds_42 : decode cX4_odds 42 = .ok (.bipush 6, 2) := by decide +kernel
theorem dX4_odds_44 : decode cX4_odds 44 = .ok (.invokestatic 200, 3) := by decide +kernel
theorem dX4_odds_47 : decode cX4_odds 47 = .ok (.istore 4, 2) := by decide +kernel
theorem dX4_odds_49 : decode cX4_odds 49 = .ok (.iload_n 2, 1) := by decide +kernel
theorem dX4_odds_50 : decode cX4_odds 50 = .ok (.ifCond .ne 7, 3) := by decide +kernel
theorem dX4_odds_53 : decode cX4_odds 53 = .ok (.iload_n 3, 1) := by decide +kernel
theorem dX4_odds_54 : decode cX4_odds 54 = .ok (.goto 5, 3) := by decide +kernel
theorem dX4_odds_57 : decode cX4_odds 57 = .ok (.bipush 6, 2) := by decide +kernel
theorem dX4_odds_59 : decode cX4_odds 59 = .ok (.iload 4, 2) := by decide +kernel
theorem dX4_odds_61 : decode cX4_odds 61 = .ok (.idiv, 1) := by decide +kernel
theorem dX4_odds_62 : decode cX4_odds 62 = .ok (.i2l, 1) := by decide +kernel
theorem dX4_odds_63 : decode cX4_odds 63 = .ok (.iload_n 1, 1) := by decide +kernel
theorem dX4_odds_64 : decode cX4_odds 64 = .ok (.invokestatic 203, 3) := by decide +kernel
theorem dX4_odds_67 : decode cX4_odds 67 = .ok (.lreturn, 1) := by decide +kernel
theorem dX4_seed_0 : decode cX4_seed 0 = .ok (.aload_n 0, 1) := by decide +kernel
theorem dX4_seed_1 : decode cX4_seed 1 = .ok (.getfield 12, 3) := by decide +kernel
theorem dX4_seed_4 : decode cX4_seed 4 = .ok (.getfield 207, 3) := by decide +kernel
theorem dX4_seed_7 : decode cX4_seed 7 = .ok (.istore_n 2, 1) := by decide +kernel
theorem dX4_seed_8 : decode cX4_seed 8 = .ok (.aload_n 0, 1) := by decide +kernel
theorem dX4_seed_9 : decode cX4_seed 9 = .ok (.getfield 12, 3) := by decide +kernel
theorem dX4_seed_12 : decode cX4_seed 12 = .ok (.iload_n 1, 1) := by decide +kernel
theorem dX4_seed_13 : decode cX4_seed 13 = .ok (.putfield 207, 3) := by decide +kernel
theorem dX4_seed_16 : decode cX4_seed 16 = .ok (.iload_n 2, 1) := by decide +kernel
theorem dX4_seed_17 : decode cX4_seed 17 = .ok (.ireturn, 1) := by decide +kernel
theorem dX4_feed_0 : decode cX4_feed 0 = .ok (.iload_n 2, 1) := by decide +kernel
theorem dX4_feed_1 : decode cX4_feed 1 = .ok (.iconst 1, 1) := by decide +kernel
theorem dX4_feed_2 : decode cX4_feed 2 = .ok (.iconst 4, 1) := by decide +kernel
theorem dX4_feed_3 : decode cX4_feed 3 = .ok (.invokestatic 99, 3) := by decide +kernel
theorem dX4_feed_6 : decode cX4_feed 6 = .ok (.ifCond .ne 10, 3) := by decide +kernel
theorem dX4_feed_9 : decode cX4_feed 9 = .ok (.aload_n 0, 1) := by decide +kernel
theorem dX4_feed_10 : decode cX4_feed 10 = .ok (.ldc 57, 2) := by decide +kernel
theorem dX4_feed_12 : decode cX4_feed 12 = .ok (.invokevirtual 58, 3) := by decide +kernel
theorem dX4_feed_15 : decode cX4_feed 15 = .ok (.ireturn, 1) := by decide +kernel
theorem dX4_feed_16 : decode cX4_feed 16 = .ok (.aload_n 0, 1) := by decide +kernel
theorem dX4_feed_17 : decode cX4_feed 17 = .ok (.getfield 28, 3) := by decide +kernel
theorem dX4_feed_20 : decode cX4_feed 20 = .ok (.getfield 210, 3) := by decide +kernel
theorem dX4_feed_23 : decode cX4_feed 23 = .ok (.bipush 120, 2) := by decide +kernel
theorem dX4_feed_25 : decode cX4_feed 25 = .ok (.iload_n 2, 1) := by decide +kernel
theorem dX4_feed_26 : decode cX4_feed 26 = .ok (.isub, 1) := by decide +kernel
theorem dX4_feed_27 : decode cX4_feed 27 = .ok (.if_icmp .le 10, 3) := by decide +kernel
theorem dX4_feed_30 : decode cX4_feed 30 = .ok (.aload_n 0, 1) := by decide +kernel
theorem dX4_feed_31 : decode cX4_feed 31 = .ok (.ldc 92, 2) := by decide +kernel
theorem dX4_feed_33 : decode cX4_feed 33 = .ok (.invokevirtual 58, 3) := by decide +kernel
theorem dX4_feed_36 : decode cX4_feed 36 = .ok (.ireturn, 1) := by decide +kernel
theorem dX4_feed_37 : decode cX4_feed 37 = .ok (.iload_n 2, 1) := by decide +kernel
theorem dX4_feed_38 : decode cX4_feed 38 = .ok (.iconst 1, 1) := by decide +kernel
theorem dX4_feed_39 : decode cX4_feed 39 = .ok (.isub, 1) := by decide +kernel
theorem dX4_feed_40 : decode cX4_feed 40 = .ok (.istore_n 3, 1) := by decide +kernel
theorem dX4_feed_41 : decode cX4_feed 41 = .ok (.iload_n 3, 1) := by decide +kernel
theorem dX4_feed_42 : decode cX4_feed 42 = .ok (.ifCond .lt 23, 3) := by decide +kernel
theorem dX4_feed_45 : decode cX4_feed 45 = .ok (.aload_n 0, 1) := by decide +kernel
theorem dX4_feed_46 : decode cX4_feed 46 = .ok (.getfield 28, 3) := by decide +kernel
theorem dX4_feed_49 : decode cX4_feed 49 = .ok (.iload_n 1, 1) := by decide +kernel
theorem dX4_feed_50 : decode cX4_feed 50 = .ok (.bipush 8, 2) := by decide +kernel
theorem dX4_feed_52 : decode cX4_feed 52 = .ok (.iload_n 3, 1) := by decide +kernel
theorem dX4_feed_53 : decode cX4_feed 53 = .ok (.imul, 1) := by decide +kernel
theorem dX4_feed_54 : decode cX4_feed 54 = .ok (.iushr, 1) := by decide +kernel
theorem dX4_feed_55 : decode cX4_feed 55 = .ok (.i2b, 1) := by decide +kernel
theorem dX4_feed_56 : decode cX4_feed 56 = .ok (.invokevirtual 213, 3) := by decide +kernel
theorem dX4_feed_59 : decode cX4_feed 59 = .ok (.iinc 3 (-1), 3) := by decide +kernel
theorem dX4_feed_62 : decode cX4_feed 62 = .ok (.goto (-21), 3) := by decide +kernel
theorem dX4_feed_65 : decode cX4_feed 65 = .ok (.aload_n 0, 1) := by decide +kernel
theorem dX4_feed_66 : decode cX4_feed 66 = .ok (.getfield 28, 3) := by decide +kernel
theorem dX4_feed_69 : decode cX4_feed 69 = .ok (.getfield 210, 3) := by decide +kernel
theorem dX4_feed_72 : decode cX4_feed 72 = .ok (.ireturn, 1) := by decide +kernel
theorem dX4_wipe_0 : decode cX4_wipe 0 = .ok (.aload_n 0, 1) := by decide +kernel
theorem dX4_wipe_1 : decode cX4_wipe 1 = .ok (.getfield 28, 3) := by decide +kernel
theorem dX4_wipe_4 : decode cX4_wipe 4 = .ok (.invokevirtual 217, 3) := by decide +kernel
theorem dX4_wipe_7 : decode cX4_wipe 7 = .ok (.ireturn, 1) := by decide +kernel
theorem dX4_text_0 : decode cX4_text 0 = .ok (.aload_n 0, 1) := by decide +kernel
theorem dX4_text_1 : decode cX4_text 1 = .ok (.getfield 19, 3) := by decide +kernel
theorem dX4_text_4 : decode cX4_text 4 = .ok (.aload_n 0, 1) := by decide +kernel
theorem dX4_text_5 : decode cX4_text 5 = .ok (.getfield 12, 3) := by decide +kernel
theorem dX4_text_8 : decode cX4_text 8 = .ok (.invokevirtual 168, 3) := by decide +kernel
theorem dX4_text_11 : decode cX4_text 11 = .ok (.aload_n 0, 1) := by decide +kernel
theorem dX4_text_12 : decode cX4_text 12 = .ok (.getfield 28, 3) := by decide +kernel
theorem dX4_text_15 : decode cX4_text 15 = .ok (.aload_n 0, 1) := by decide +kernel
theorem dX4_text_16 : decode cX4_text 16 = .ok (.getfield 19, 3) := by decide +kernel
theorem dX4_text_19 : decode cX4_text 19 = .ok (.invokevirtual 220, 3) := by decide +kernel
theorem dX4_text_22 : decode cX4_text 22 = .ok (.istore_n 1, 1) := by decide +kernel
theorem dX4_text_23 : decode cX4_text 23 = .ok (.aload_n 0, 1) := by decide +kernel
theorem dX4_text_24 : decode cX4_text 24 = .ok (.getfield 28, 3) := by decide +kernel
theorem dX4_text_27 : decode cX4_text 27 = .ok (.invokevirtual 217, 3) := by decide +kernel
theorem dX4_text_30 : decode cX4_text 30 = .ok (.pop, 1) := by decide +kernel
theorem dX4_text_31 : decode cX4_text 31 = .ok (.iload_n 1, 1) := by decide +kernel
theorem dX4_text_32 : decode cX4_text 32 = .ok (.ifCond .le 14, 3) := by decide +kernel
theorem dX4_text_35 : decode cX4_text 35 = .ok (.aload_n 0, 1) := by decide +kernel
theorem dX4_text_36 : decode cX4_text 36 = .ok (.getfield 12, 3) := by decide +kernel
theorem dX4_text_39 : decode cX4_text 39 = .ok (.aload_n 0, 1) := by decide +kernel
theorem dX4_text_40 : decode cX4_text 40 = .ok (.getfield 19, 3) := by decide +kernel
theorem dX4_text_43 : decode cX4_text 43 = .ok (.invokevirtual 168, 3) := by decide +kernel
theorem dX4_text_46 : decode cX4_text 46 = .ok (.iload_n 1, 1) := by decide +kernel
theorem dX4_text_47 : decode cX4_text 47 = .ok (.ireturn, 1) := by decide +kernel
theorem dX4_hold_0 : decode cX4_hold 0 = .ok (.iload_n 1, 1) := by decide +kernel
theorem dX4_hold_1 : decode cX4_hold 1 = .ok (.invokestatic 224, 3) := by decide +kernel
theorem dX4_hold_4 : decode cX4_hold 4 = .ok (.ifCond .eq 16, 3) := by decide +kernel
theorem dX4_hold_7 : decode cX4_hold 7 = .ok (.iload_n 2, 1) := by decide +kernel
theorem dX4_hold_8 : decode cX4_hold 8 = .ok (.iconst (-1), 1) := by decide +kernel
theorem dX4_hold_9 : decode cX4_hold 9 = .ok (.if_icmp .eq 18, 3) := by decide +kernel
theorem dX4_hold_12 : decode cX4_hold 12 = .ok (.aload_n 0, 1) := by decide +kernel
theorem dX4_hold_13 : decode cX4_hold 13 = .ok (.iload_n 2, 1) := by decide +kernel
theorem dX4_hold_14 : decode cX4_hold 14 = .ok (.invokevirtual 96, 3) := by decide +kernel
theorem dX4_hold_17 : decode cX4_hold 17 = .ok (.ifCond .ne 10, 3) := by decide +kernel
theorem dX4_hold_20 : decode cX4_hold 20 = .ok (.aload_n 0, 1) := by decide +kernel
theorem dX4_hold_21 : decode cX4_hold 21 = .ok (.ldc 57, 2) := by decide +kernel
theorem dX4_hold_23 : decode cX4_hold 23 = .ok (.invokevirtual 58, 3) := by decide +kernel
theorem dX4_hold_26 : decode cX4_hold 26 = .ok (.ireturn, 1) := by decide +kernel
theorem dX4_hold_27 : decode cX4_hold 27 = .ok (.aload_n 0, 1) := by decide +kernel
theorem dX4_hold_28 : decode cX4_hold 28 = .ok (.getfield 12, 3) := by decide +kernel
theorem dX4_hold_31 : decode cX4_hold 31 = .ok (.getfield 227, 3) := by decide +kernel
theorem dX4_hold_34 : decode cX4_hold 34 = .ok (.iload_n 1, 1) := by decide +kernel
theorem dX4_hold_35 : decode cX4_hold 35 = .ok (.iload_n 2, 1) := by decide +kernel
theorem dX4_hold_36 : decode cX4_hold 36 = .ok (.iastore, 1) := by decide +kernel
theorem dX4_hold_37 : decode cX4_hold 37 = .ok (.iconst 1, 1) := by decide +kernel
theorem dX4_hold_38 : decode cX4_hold 38 = .ok (.ireturn, 1) := by decide +kernel
theorem dX4_as_0 : decode cX4_as 0 = .ok (.iload_n 1, 1) := by decide +kernel
theorem dX4_as_1 : decode cX4_as 1 = .ok (.invokestatic 224, 3) := by decide +kernel
theorem dX4_as_4 : decode cX4_as 4 = .ok (.ifCond .eq 10, 3) := by decide +kernel
theorem dX4_as_7 : decode cX4_as 7 = .ok (.iload_n 2, 1) := by decide +kernel
theorem dX4_as_8 : decode cX4_as 8 = .ok (.invokestatic 85, 3) := by decide +kernel
theorem dX4_as_11 : decode cX4_as 11 = .ok (.ifCond .ne 10, 3) := by decide +kernel
theorem dX4_as_14 : decode cX4_as 14 = .ok (.aload_n 0, 1) := by decide +kernel
theorem dX4_as_15 : decode cX4_as 15 = .ok (.ldc 57, 2) := by decide +kernel
theorem dX4_as_17 : decode cX4_as 17 = .ok (.invokevirtual 58, 3) := by decide +kernel
theorem dX4_as_20 : decode cX4_as 20 = .ok (.ireturn, 1) := by decide +kernel
theorem dX4_as_21 : decode cX4_as 21 = .ok (.aload_n 0, 1) := by decide +kernel
theorem dX4_as_22 : decode cX4_as 22 = .ok (.getfield 12, 3) := by decide +kernel
theorem dX4_as_25 : decode cX4_as 25 = .ok (.getfield 227, 3) := by decide +kernel
theorem dX4_as_28 : decode cX4_as 28 = .ok (.iload_n 1, 1) := by decide +kernel
theorem dX4_as_29 : decode cX4_as 29 = .ok (.iaload, 1) := by decide +kernel
theorem dX4_as_30 : decode cX4_as 30 = .ok (.istore_n 3, 1) := by decide +kernel
theorem dX4_as_31 : decode cX4_as 31 = .ok (.iload_n 3, 1) := by decide +kernel
theorem dX4_as_32 : decode cX4_as 32 = .ok (.iconst (-1), 1) := by decide +kernel
theorem dX4_as_33 : decode cX4_as 33 = .ok (.if_icmp .ne 10, 3) := by decide +kernel
theorem dX4_as_36 : decode cX4_as 36 = .ok (.aload_n 0, 1) := by decide +kernel
theorem dX4_as_37 : decode cX4_as 37 = .ok (.ldc 189, 2) := by decide +kernel
theorem dX4_as_39 : decode cX4_as 39 = .ok (.invokevirtual 58, 3) := by decide +kernel
theorem dX4_as_42 : decode cX4_as 42 = .ok (.ireturn, 1) := by decide +kernel
theorem dX4_as_43 : decode cX4_as 43 = .ok (.aload_n 0, 1) := by decide +kernel
theorem dX4_as_44 : decode cX4_as 44 = .ok (.getfield 12, 3) := by decide +kernel
theorem dX4_as_47 : decode cX4_as 47 = .ok (.iload_n 3, 1) := by decide +kernel
theorem dX4_as_48 : decode cX4_as 48 = .ok (.iconst 0, 1) := by decide +kernel
theorem dX4_as_49 : decode cX4_as 49 = .ok (.invokevirtual 106, 3) := by decide +kernel
theorem dX4_as_52 : decode cX4_as 52 = .ok (.iload_n 2, 1) := by decide +kernel
theorem dX4_as_53 : decode cX4_as 53 = .ok (.invokestatic 230, 3) := by decide +kernel
theorem dX4_as_56 : decode cX4_as 56 = .ok (.ifCond .ne 10, 3) := by decide +kernel
theorem dX4_as_59 : decode cX4_as 59 = .ok (.aload_n 0, 1) := by decide +kernel
theorem dX4_as_60 : decode cX4_as 60 = .ok (.ldc 234, 2) := by decide +kernel
theorem dX4_as_62 : decode cX4_as 62 = .ok (.invokevirtual 58, 3) := by decide +kernel
theorem dX4_as_65 : decode cX4_as 65 = .ok (.ireturn, 1) := by decide +kernel
theorem dX4_as_66 : decode cX4_as 66 = .ok (.iload_n 3, 1) := by decide +kernel
theorem dX4_as_67 : decode cX4_as 67 = .ok (.ireturn, 1) := by decide +kernel
theorem dX4_sheet_0 : decode cX4_sheet 0 = .ok (.iload_n 1, 1) := by decide +kernel
theorem dX4_sheet_1 : decode cX4_sheet 1 = .ok (.invokestatic 183, 3) := by decide +kernel
theorem dX4_sheet_4 : decode cX4_sheet 4 = .ok (.ifCond .eq 25, 3) := by decide +kernel
theorem dX4_sheet_7 : decode cX4_sheet 7 = .ok (.iload_n 2, 1) := by decide +kernel
theorem dX4_sheet_8 : decode cX4_sheet 8 = .ok (.ifCond .eq 28, 3) := by decide +kernel
theorem dX4_sheet_11 : decode cX4_sheet 11 = .ok (.iload_n 2, 1) := by decide +kernel
theorem dX4_sheet_12 : decode cX4_sheet 12 = .ok (.bipush 8, 2) := by decide +kernel
theorem dX4_sheet_14 : decode cX4_sheet 14 = .ok (.if_icmp .eq 22, 3) := by decide +kernel
theorem dX4_sheet_17 : decode cX4_sheet 17 = .ok (.iload_n 2, 1) := by decide +kernel
theorem dX4_sheet_18 : decode cX4_sheet 18 = .ok (.bipush 16, 2) := by decide +kernel
theorem dX4_sheet_20 : decode cX4_sheet 20 = .ok (.if_icmp .eq 16, 3) := by decide +kernel
theorem dX4_sheet_23 : decode cX4_sheet 23 = .ok (.iload_n 2, 1) := by decide +kernel
theorem dX4_sheet_24 : decode cX4_sheet 24 = .ok (.bipush 32, 2) := by decide +kernel
theorem dX4_sheet_26 : decode cX4_sheet 26 = .ok (.if_icmp .eq 10, 3) := by decide +kernel
theorem dX4_sheet_29 : decode cX4_sheet 29 = .ok (.aload_n 0, 1) := by decide +kernel
theorem dX4_sheet_30 : decode cX4_sheet 30 = .ok (.ldc 57, 2) := by decide +kernel
theorem dX4_sheet_32 : decode cX4_sheet 32 = .ok (.invokevirtual 58, 3) := by decide +kernel
theorem dX4_sheet_35 : decode cX4_sheet 35 = .ok (.ireturn, 1) := by decide +kernel
theorem dX4_sheet_36 : decode cX4_sheet 36 = .ok (.iload_n 3, 1) := by decide +kernel
theorem dX4_sheet_37 : decode cX4_sheet 37 = .ok (.ifCond .ge 10, 3) := by decide +kernel
theorem dX4_sheet_40 : decode cX4_sheet 40 = .ok (.aload_n 0, 1) := by decide +kernel
theorem dX4_sheet_41 : decode cX4_sheet 41 = .ok (.ldc 235, 2) := by decide +kernel
theorem dX4_sheet_43 : decode cX4_sheet 43 = .ok (.invokevirtual 58, 3) := by decide +kernel
theorem dX4_sheet_46 : decode cX4_sheet 46 = .ok (.ireturn, 1) := by decide +kernel
theorem dX4_sheet_47 : decode cX4_sheet 47 = .ok (.iload_n 3, 1) := by decide +kernel
theorem dX4_sheet_48 : decode cX4_sheet 48 = .ok (.bipush 40, 2) := by decide +kernel
theorem dX4_sheet_50 : decode cX4_sheet 50 = .ok (.if_icmp .le 10, 3) := by decide +kernel
theorem dX4_sheet_53 : decode cX4_sheet 53 = .ok (.aload_n 0, 1) := by decide +kernel
theorem dX4_sheet_54 : decode cX4_sheet 54 = .ok (.ldc 57, 2) := by decide +kernel
theorem dX4_sheet_56 : decode cX4_sheet 56 = .ok (.invokevirtual 58, 3) := by decide +kernel
theorem dX4_sheet_59 : decode cX4_sheet 59 = .ok (.ireturn, 1) := by decide +kernel
theorem dX4_sheet_60 : decode cX4_sheet 60 = .ok (.aload_n 0, 1) := by decide +kernel
theorem dX4_sheet_61 : decode cX4_sheet 61 = .ok (.getfield 34, 3) := by decide +kernel
theorem dX4_sheet_64 : decode cX4_sheet 64 = .ok (.iload_n 1, 1) := by decide +kernel
theorem dX4_sheet_65 : decode cX4_sheet 65 = .ok (.aaload, 1) := by decide +kernel
theorem dX4_sheet_66 : decode cX4_sheet 66 = .ok (.iload_n 2, 1) := by decide +kernel
theorem dX4_sheet_67 : decode cX4_sheet 67 = .ok (.iload_n 3, 1) := by decide +kernel
theorem dX4_sheet_68 : decode cX4_sheet 68 = .ok (.invokevirtual 236, 3) := by decide +kernel
theorem dX4_sheet_71 : decode cX4_sheet 71 = .ok (.aload_n 0, 1) := by decide +kernel
theorem dX4_sheet_72 : decode cX4_sheet 72 = .ok (.getfield 34, 3) := by decide +kernel
theorem dX4_sheet_75 : decode cX4_sheet 75 = .ok (.iload_n 1, 1) := by decide +kernel
theorem dX4_sheet_76 : decode cX4_sheet 76 = .ok (.aaload, 1) := by decide +kernel
theorem dX4_sheet_77 : decode cX4_sheet 77 = .ok (.getfield 239, 3) := by decide +kernel
theorem dX4_sheet_80 : decode cX4_sheet 80 = .ok (.ireturn, 1) := by decide +kernel
theorem dX4_write_0 : decode cX4_write 0 = .ok (.iload_n 1, 1) := by decide +kernel
theorem dX4_write_1 : decode cX4_write 1 = .ok (.invokestatic 183, 3) := by decide +kernel
theorem dX4_write_4 : decode cX4_write 4 = .ok (.ifCond .ne 10, 3) := by decide +kernel
theorem dX4_write_7 : decode cX4_write 7 = .ok (.aload_n 0, 1) := by decide +kernel
theorem dX4_write_8 : decode cX4_write 8 = .ok (.ldc 57, 2) := by decide +kernel
theorem dX4_write_10 : decode cX4_write 10 = .ok (.invokevirtual 58, 3) := by decide +kernel
theorem dX4_write_13 : decode cX4_write 13 = .ok (.ireturn, 1) := by decide +kernel
theorem dX4_write_14 : decode cX4_write 14 = .ok (.aload_n 0, 1) := by decide +kernel
theorem dX4_write_15 : decode cX4_write 15 = .ok (.getfield 34, 3) := by decide +kernel
theorem dX4_write_18 : decode cX4_write 18 = .ok (.iload_n 1, 1) := by decide +kernel
theorem dX4_write_19 : decode cX4_write 19 = .ok (.aaload, 1) := by decide +kernel
theorem dX4_write_20 : decode cX4_write 20 = .ok (.invokevirtual 186, 3) := by decide +kernel
theorem dX4_write_23 : decode cX4_write 23 = .ok (.ifCond .eq 10, 3) := by decide +kernel
theorem dX4_write_26 : decode cX4_write 26 = .ok (.aload_n 0, 1) := by decide +kernel
theorem dX4_write_27 : decode cX4_write 27 = .ok (.ldc 189, 2) := by decide +kernel
theorem dX4_write_29 : decode cX4_write 29 = .ok (.invokevirtual 58, 3) := by decide +kernel
theorem dX4_write_32 : decode cX4_write 32 = .ok (.ireturn, 1) := by decide +kernel
theorem dX4_write_33 : decode cX4_write 33 = .ok (.iload_n 2, 1) := by decide +kernel
theorem dX4_write_34 : decode cX4_write 34 = .ok (.iconst 0, 1) := by decide +kernel
theorem dX4_write_35 : decode cX4_write 35 = .ok (.aload_n 0, 1) := by decide +kernel
theorem dX4_write_36 : decode cX4_write 36 = .ok (.getfield 34, 3) := by decide +kernel
theorem dX4_write_39 : decode cX4_write 39 = .ok (.iload_n 1, 1) := by decide +kernel
theorem dX4_write_40 : decode cX4_write 40 = .ok (.aaload, 1) := by decide +kernel
theorem dX4_write_41 : decode cX4_write 41 = .ok (.getfield 239, 3) := by decide +kernel
theorem dX4_write_44 : decode cX4_write 44 = .ok (.iconst 1, 1) := by decide +kernel
theorem dX4_write_45 : decode cX4_write 45 = .ok (.isub, 1) := by decide +kernel
theorem dX4_write_46 : decode cX4_write 46 = .ok (.invokestatic 99, 3) := by decide +kernel
theorem dX4_write_49 : decode cX4_write 49 = .ok (.ifCond .ne 10, 3) := by decide +kernel
theorem dX4_write_52 : decode cX4_write 52 = .ok (.aload_n 0, 1) := by decide +kernel
theorem dX4_write_53 : decode cX4_write 53 = .ok (.ldc 57, 2) := by decide +kernel
theorem dX4_write_55 : decode cX4_write 55 = .ok (.invokevirtual 58, 3) := by decide +kernel
theorem dX4_write_58 : decode cX4_write 58 = .ok (.ireturn, 1) := by decide +kernel
theorem dX4_write_59 : decode cX4_write 59 = .ok (.aload_n 0, 1) := by decide +kernel
theorem dX4_write_60 : decode cX4_write 60 = .ok (.getfield 34, 3) := by decide +kernel
theorem dX4_write_63 : decode cX4_write 63 = .ok (.iload_n 1, 1) := by decide +kernel
theorem dX4_write_64 : decode cX4_write 64 = .ok (.aaload, 1) := by decide +kernel
theorem dX4_write_65 : decode cX4_write 65 = .ok (.iload_n 2, 1) := by decide +kernel
theorem dX4_write_66 : decode cX4_write 66 = .ok (.iload_n 3, 1) := by decide +kernel
theorem dX4_write_67 : decode cX4_write 67 = .ok (.invokevirtual 240, 3) := by decide +kernel
theorem dX4_write_70 : decode cX4_write 70 = .ok (.iconst 1, 1) := by decide +kernel
theorem dX4_write_71 : decode cX4_write 71 = .ok (.ireturn, 1) := by decide +kernel
theorem dX4_copy_0 : decode cX4_copy 0 = .ok (.iload_n 1, 1) := by decide +kernel
theorem dX4_copy_1 : decode cX4_copy 1 = .ok (.invokestatic 183, 3) := by decide +kernel
theorem dX4_copy_4 : decode cX4_copy 4 = .ok (.ifCond .eq 10, 3) := by decide +kernel
theorem dX4_copy_7 : decode cX4_copy 7 = .ok (.iload_n 3, 1) := by decide +kernel
theorem dX4_copy_8 : decode cX4_copy 8 = .ok (.invokestatic 183, 3) := by decide +kernel
theorem dX4_copy_11 : decode cX4_copy 11 = .ok (.ifCond .ne 10, 3) := by decide +kernel
theorem dX4_copy_14 : decode cX4_copy 14 = .ok (.aload_n 0, 1) := by decide +kernel
theorem dX4_copy_15 : decode cX4_copy 15 = .ok (.ldc 57, 2) := by decide +kernel
theorem dX4_copy_17 : decode cX4_copy 17 = .ok (.invokevirtual 58, 3) := by decide +kernel
theorem dX4_copy_20 : decode cX4_copy 20 = .ok (.ireturn, 1) := by decide +kernel
theorem dX4_copy_21 : decode cX4_copy 21 = .ok (.aload_n 0, 1) := by decide +kernel
theorem dX4_copy_22 : decode cX4_copy 22 = .ok (.getfield 34, 3) := by decide +kernel
theorem dX4_copy_25 : decode cX4_copy 25 = .ok (.iload_n 1, 1) := by decide +kernel
theorem dX4_copy_26 : decode cX4_copy 26 = .ok (.aaload, 1) := by decide +kernel
theorem dX4_copy_27 : decode cX4_copy 27 = .ok (.invokevirtual 186, 3) := by decide +kernel
theorem dX4_copy_30 : decode cX4_copy 30 = .ok (.ifCond .ne 15, 3) := by decide +kernel
theorem dX4_copy_33 : decode cX4_copy 33 = .ok (.aload_n 0, 1) := by decide +kernel
theorem dX4_copy_34 : decode cX4_copy 34 = .ok (.getfield 34, 3) := by decide +kernel
theorem dX4_copy_37 : decode cX4_copy 37 = .ok (.iload_n 3, 1) := by decide +kernel
theorem dX4_copy_38 : decode cX4_copy 38 = .ok (.aaload, 1) := by decide +kernel
theorem dX4_copy_39 : decode cX4_copy 39 = .ok (.invokevirtual 186, 3) := by decide +kernel
theorem dX4_copy_42 : decode cX4_copy 42 = .ok (.ifCond .eq 10, 3) := by decide +kernel
theorem dX4_copy_45 : decode cX4_copy 45 = .ok (.aload_n 0, 1) := by decide +kernel
theorem dX4_copy_46 : decode cX4_copy 46 = .ok (.ldc 189, 2) := by decide +kernel
theorem dX4_copy_48 : decode cX4_copy 48 = .ok (.invokevirtual 58, 3) := by decide +kernel
theorem dX4_copy_51 : decode cX4_copy 51 = .ok (.ireturn, 1) := by decide +kernel
theorem dX4_copy_52 : decode cX4_copy 52 = .ok (.aload_n 0, 1) := by decide +kernel
theorem dX4_copy_53 : decode cX4_copy 53 = .ok (.getfield 34, 3) := by decide +kernel
theorem dX4_copy_56 : decode cX4_copy 56 = .ok (.iload_n 1, 1) := by decide +kernel
theorem dX4_copy_57 : decode cX4_copy 57 = .ok (.aaload, 1) := by decide +kernel
theorem dX4_copy_58 : decode cX4_copy 58 = .ok (.getfield 243, 3) := by decide +kernel
theorem dX4_copy_61 : decode cX4_copy 61 = .ok (.aload_n 0, 1) := by decide +kernel
theorem dX4_copy_62 : decode cX4_copy 62 = .ok (.getfield 34, 3) := by decide +kernel
theorem dX4_copy_65 : decode cX4_copy 65 = .ok (.iload_n 3, 1) := by decide +kernel
theorem dX4_copy_66 : decode cX4_copy 66 = .ok (.aaload, 1) := by decide +kernel
theorem dX4_copy_67 : decode cX4_copy 67 = .ok (.getfield 243, 3) := by decide +kernel
theorem dX4_copy_70 : decode cX4_copy 70 = .ok (.if_icmp .eq 10, 3) := by decide +kernel
theorem dX4_copy_73 : decode cX4_copy 73 = .ok (.aload_n 0, 1) := by decide +kernel
theorem dX4_copy_74 : decode cX4_copy 74 = .ok (.ldc 234, 2) := by decide +kernel
theorem dX4_copy_76 : decode cX4_copy 76 = .ok (.invokevirtual 58, 3) := by decide +kernel
theorem dX4_copy_79 : decode cX4_copy 79 = .ok (.ireturn, 1) := by decide +kernel
theorem dX4_copy_80 : decode cX4_copy 80 = .ok (.aload_n 0, 1) := by decide +kernel
theorem dX4_copy_81 : decode cX4_copy 81 = .ok (.getfield 34, 3) := by decide +kernel
theorem dX4_copy_84 : decode cX4_copy 84 = .ok (.iload_n 1, 1) := by decide +kernel
theorem dX4_copy_85 : decode cX4_copy 85 = .ok (.aaload, 1) := by decide +kernel
theorem dX4_copy_86 : decode cX4_copy 86 = .ok (.iload_n 2, 1) := by decide +kernel
theorem dX4_copy_87 : decode cX4_copy 87 = .ok (.iload 5, 2) := by decide +kernel
theorem dX4_copy_89 : decode cX4_copy 89 = .ok (.invokevirtual 246, 3) := by decide +kernel
theorem dX4_copy_92 : decode cX4_copy 92 = .ok (.ifCond .eq 19, 3) := by decide +kernel
theorem dX4_copy_95 : decode cX4_copy 95 = .ok (.aload_n 0, 1) := by decide +kernel
theorem dX4_copy_96 : decode cX4_copy 96 = .ok (.getfield 34, 3) := by decide +kernel
theorem dX4_copy_99 : decode cX4_copy 99 = .ok (.iload_n 3, 1) := by decide +kernel
theorem dX4_copy_100 : decode cX4_copy 100 = .ok (.aaload, 1) := by decide +kernel
theorem dX4_copy_101 : decode cX4_copy 101 = .ok (.iload 4, 2) := by decide +kernel
theorem dX4_copy_103 : decode cX4_copy 103 = .ok (.iload 5, 2) := by decide +kernel
theorem dX4_copy_105 : decode cX4_copy 105 = .ok (.invokevirtual 246, 3) := by decide +kernel
theorem dX4_copy_108 : decode cX4_copy 108 = .ok (.ifCond .ne 10, 3) := by decide +kernel
theorem dX4_copy_111 : decode cX4_copy 111 = .ok (.aload_n 0, 1) := by decide +kernel
theorem dX4_copy_112 : decode cX4_copy 112 = .ok (.ldc 57, 2) := by decide +kernel
theorem dX4_copy_114 : decode cX4_copy 114 = .ok (.invokevirtual 58, 3) := by decide +kernel
theorem dX4_copy_117 : decode cX4_copy 117 = .ok (.ireturn, 1) := by decide +kernel
theorem dX4_copy_118 : decode cX4_copy 118 = .ok (.aload_n 0, 1) := by decide +kernel
theorem dX4_copy_119 : decode cX4_copy 119 = .ok (.getfield 34, 3) := by decide +kernel
theorem dX4_copy_122 : decode cX4_copy 122 = .ok (.iload_n 1, 1) := by decide +kernel
theorem dX4_copy_123 : decode cX4_copy 123 = .ok (.aaload, 1) := by decide +kernel
theorem dX4_copy_124 : decode cX4_copy 124 = .ok (.getfield 249, 3) := by decide +kernel
theorem dX4_copy_127 : decode cX4_copy 127 = .ok (.iload_n 2, 1) := by decide +kernel
theorem dX4_copy_128 : decode cX4_copy 128 = .ok (.aload_n 0, 1) := by decide +kernel
theorem dX4_copy_129 : decode cX4_copy 129 = .ok (.getfield 34, 3) := by decide +kernel
theorem dX4_copy_132 : decode cX4_copy 132 = .ok (.iload_n 3, 1) := by decide +kernel
theorem dX4_copy_133 : decode cX4_copy 133 = .ok (.aaload, 1) := by decide +kernel
theorem dX4_copy_134 : decode cX4_copy 134 = .ok (.getfield 249, 3) := by decide +kernel
theorem dX4_copy_137 : decode cX4_copy 137 = .ok (.iload 4, 2) := by decide +kernel
theorem dX4_copy_139 : decode cX4_copy 139 = .ok (.iload 5, 2) := by decide +kernel
theorem dX4_copy_141 : decode cX4_copy 141 = .ok (.invokestatic 252, 3) := by decide +kernel
theorem dX4_copy_144 : decode cX4_copy 144 = .ok (.iload 5, 2) := by decide +kernel
theorem dX4_copy_146 : decode cX4_copy 146 = .ok (.ireturn, 1) := by decide +kernel
theorem dX4_load_0 : decode cX4_load 0 = .ok (.iload_n 1, 1) := by decide +kernel
theorem dX4_load_1 : decode cX4_load 1 = .ok (.invokestatic 183, 3) := by decide +kernel
theorem dX4_load_4 : decode cX4_load 4 = .ok (.ifCond .ne 10, 3) := by decide +kernel
theorem dX4_load_7 : decode cX4_load 7 = .ok (.aload_n 0, 1) := by decide +kernel
theorem dX4_load_8 : decode cX4_load 8 = .ok (.ldc 57, 2) := by decide +kernel
theorem dX4_load_10 : decode cX4_load 10 = .ok (.invokevirtual 58, 3) := by decide +kernel
theorem dX4_load_13 : decode cX4_load 13 = .ok (.ireturn, 1) := by decide +kernel
theorem dX4_load_14 : decode cX4_load 14 = .ok (.aload_n 0, 1) := by decide +kernel
theorem dX4_load_15 : decode cX4_load 15 = .ok (.getfield 34, 3) := by decide +kernel
theorem dX4_load_18 : decode cX4_load 18 = .ok (.iload_n 1, 1) := by decide +kernel
theorem dX4_load_19 : decode cX4_load 19 = .ok (.aaload, 1) := by decide +kernel
theorem dX4_load_20 : decode cX4_load 20 = .ok (.invokevirtual 186, 3) := by decide +kernel
theorem dX4_load_23 : decode cX4_load 23 = .ok (.ifCond .eq 10, 3) := by decide +kernel
theorem dX4_load_26 : decode cX4_load 26 = .ok (.aload_n 0, 1) := by decide +kernel
theorem dX4_load_27 : decode cX4_load 27 = .ok (.ldc 189, 2) := by decide +kernel
theorem dX4_load_29 : decode cX4_load 29 = .ok (.invokevirtual 58, 3) := by decide +kernel
theorem dX4_load_32 : decode cX4_load 32 = .ok (.ireturn, 1) := by decide +kernel
theorem dX4_load_33 : decode cX4_load 33 = .ok (.aload_n 0, 1) := by decide +kernel
theorem dX4_load_34 : decode cX4_load 34 = .ok (.getfield 34, 3) := by decide +kernel
theorem dX4_load_37 : decode cX4_load 37 = .ok (.iload_n 1, 1) := by decide +kernel
theorem dX4_load_38 : decode cX4_load 38 = .ok (.aaload, 1) := by decide +kernel
theorem dX4_load_39 : decode cX4_load 39 = .ok (.getfield 239, 3) := by decide +kernel
theorem dX4_load_42 : decode cX4_load 42 = .ok (.bipush 8, 2) := by decide +kernel
theorem dX4_load_44 : decode cX4_load 44 = .ok (.invokestatic 258, 3) := by decide +kernel
theorem dX4_load_47 : decode cX4_load 47 = .ok (.istore_n 2, 1) := by decide +kernel
theorem dX4_load_48 : decode cX4_load 48 = .ok (.iconst 0, 1) := by decide +kernel
theorem dX4_load_49 : decode cX4_load 49 = .ok (.istore_n 3, 1) := by decide +kernel
theorem dX4_load_50 : decode cX4_load 50 = .ok (.iload_n 3, 1) := by decide +kernel
theorem dX4_load_51 : decode cX4_load 51 = .ok (.iload_n 2, 1) := by decide +kernel
theorem dX4_load_52 : decode cX4_load 52 = .ok (.if_icmp .ge 43, 3) := by decide +kernel
theorem dX4_load_55 : decode cX4_load 55 = .ok (.aload_n 0, 1) := by decide +kernel
theorem dX4_load_56 : decode cX4_load 56 = .ok (.getfield 34, 3) := by decide +kernel
theorem dX4_load_59 : decode cX4_load 59 = .ok (.iload_n 1, 1) := by decide +kernel
theorem dX4_load_60 : decode cX4_load 60 = .ok (.aaload, 1) := by decide +kernel
theorem dX4_load_61 : decode cX4_load 61 = .ok (.getfield 249, 3) := by decide +kernel
theorem dX4_load_64 : decode cX4_load 64 = .ok (.iload_n 3, 1) := by decide +kernel
theorem dX4_load_65 : decode cX4_load 65 = .ok (.iaload, 1) := by decide +kernel
theorem dX4_load_66 : decode cX4_load 66 = .ok (.istore 4, 2) := by decide +kernel
theorem dX4_load_68 : decode cX4_load 68 = .ok (.iload 4, 2) := by decide +kernel
theorem dX4_load_70 : decode cX4_load 70 = .ok (.invokestatic 54, 3) := by decide +kernel
theorem dX4_load_73 : decode cX4_load 73 = .ok (.ifCond .ne 5, 3) := by decide +kernel
theorem dX4_load_76 : decode cX4_load 76 = .ok (.iload_n 3, 1) := by decide +kernel
theorem dX4_load_77 : decode cX4_load 77 = .ok (.ireturn, 1) := by decide +kernel
theorem dX4_load_78 : decode cX4_load 78 = .ok (.aload_n 0, 1) := by decide +kernel
theorem dX4_load_79 : decode cX4_load 79 = .ok (.getfield 12, 3) := by decide +kernel
theorem dX4_load_82 : decode cX4_load 82 = .ok (.iconst 0, 1) := by decide +kernel
theorem dX4_load_83 : decode cX4_load 83 = .ok (.iload_n 3, 1) := by decide +kernel
theorem dX4_load_84 : decode cX4_load 84 = .ok (.iload 4, 2) := by decide +kernel
theorem dX4_load_86 : decode cX4_load 86 = .ok (.invokevirtual 66, 3) := by decide +kernel
theorem dX4_load_89 : decode cX4_load 89 = .ok (.iinc 3 1, 3) := by decide +kernel
theorem dX4_load_92 : decode cX4_load 92 = .ok (.goto (-42), 3) := by decide +kernel
theorem dX4_load_95 : decode cX4_load 95 = .ok (.iload_n 2, 1) := by decide +kernel
theorem dX4_load_96 : decode cX4_load 96 = .ok (.ireturn, 1) := by decide +kernel
theorem dX4_judge_0 : decode cX4_judge 0 = .ok (.iload_n 1, 1) := by decide +kernel
theorem dX4_judge_1 : decode cX4_judge 1 = .ok (.invokestatic 183, 3) := by decide +kernel
theorem dX4_judge_4 : decode cX4_judge 4 = .ok (.ifCond .ne 10, 3) := by decide +kernel
theorem dX4_judge_7 : decode cX4_judge 7 = .ok (.aload_n 0, 1) := by decide +kernel
theorem dX4_judge_8 : decode cX4_judge 8 = .ok (.ldc 57, 2) := by decide +kernel
theorem dX4_judge_10 : decode cX4_judge 10 = .ok (.invokevirtual 58, 3) := by decide +kernel
theorem dX4_judge_13 : decode cX4_judge 13 = .ok (.ireturn, 1) := by decide +kernel
theorem dX4_judge_14 : decode cX4_judge 14 = .ok (.aload_n 0, 1) := by decide +kernel
theorem dX4_judge_15 : decode cX4_judge 15 = .ok (.getfield 34, 3) := by decide +kernel
theorem dX4_judge_18 : decode cX4_judge 18 = .ok (.iload_n 1, 1) := by decide +kernel
theorem dX4_judge_19 : decode cX4_judge 19 = .ok (.aaload, 1) := by decide +kernel
theorem dX4_judge_20 : decode cX4_judge 20 = .ok (.invokevirtual 186, 3) := by decide +kernel
theorem dX4_judge_23 : decode cX4_judge 23 = .ok (.ifCond .eq 10, 3) := by decide +kernel
theorem dX4_judge_26 : decode cX4_judge 26 = .ok (.aload_n 0, 1) := by decide +kernel
theorem dX4_judge_27 : decode cX4_judge 27 = .ok (.ldc 189, 2) := by decide +kernel
theorem dX4_judge_29 : decode cX4_judge 29 = .ok (.invokevirtual 58, 3) := by decide +kernel
theorem dX4_judge_32 : decode cX4_judge 32 = .ok (.ireturn, 1) := by decide +kernel
theorem dX4_judge_33 : decode cX4_judge 33 = .ok (.iconst 0, 1) := by decide +kernel
theorem dX4_judge_34 : decode cX4_judge 34 = .ok (.istore_n 2, 1) := by decide +kernel
theorem dX4_judge_35 : decode cX4_judge 35 = .ok (.iload_n 2, 1) := by decide +kernel
theorem dX4_judge_36 : decode cX4_judge 36 = .ok (.aload_n 0, 1) := by decide +kernel
theorem dX4_judge_37 : decode cX4_judge 37 = .ok (.getfield 34, 3) := by decide +kernel
theorem dX4_judge_40 : decode cX4_judge 40 = .ok (.iload_n 1, 1) := by decide +kernel
theorem dX4_judge_41 : decode cX4_judge 41 = .ok (.aaload, 1) := by decide +kernel
theorem dX4_judge_42 : decode cX4_judge 42 = .ok (.getfield 239, 3) := by decide +kernel
theorem dX4_judge_45 : decode cX4_judge 45 = .ok (.if_icmp .ge 42, 3) := by decide +kernel
theorem dX4_judge_48 : decode cX4_judge 48 = .ok (.iload_n 2, 1) := by decide +kernel
theorem dX4_judge_49 : decode cX4_judge 49 = .ok (.invokestatic 47, 3) := by decide +kernel
theorem dX4_judge_52 : decode cX4_judge 52 = .ok (.ifCond .eq 25, 3) := by decide +kernel
theorem dX4_judge_55 : decode cX4_judge 55 = .ok (.aload_n 0, 1) := by decide +kernel
theorem dX4_judge_56 : decode cX4_judge 56 = .ok (.getfield 34, 3) := by decide +kernel
theorem dX4_judge_59 : decode cX4_judge 59 = .ok (.iload_n 1, 1) := by decide +kernel
theorem dX4_judge_60 : decode cX4_judge 60 = .ok (.aaload, 1) := by decide +kernel
theorem dX4_judge_61 : decode cX4_judge 61 = .ok (.getfield 249, 3) := by decide +kernel
theorem dX4_judge_64 : decode cX4_judge 64 = .ok (.iload_n 2, 1) := by decide +kernel
theorem dX4_judge_65 : decode cX4_judge 65 = .ok (.iaload, 1) := by decide +kernel
theorem dX4_judge_66 : decode cX4_judge 66 = .ok (.aload_n 0, 1) := by decide +kernel
theorem dX4_judge_67 : decode cX4_judge 67 = .ok (.getfield 12, 3) := by decide +kernel
theorem dX4_judge_70 : decode cX4_judge 70 = .ok (.iload_n 2, 1) := by decide +kernel
theorem dX4_judge_71 : decode cX4_judge 71 = .ok (.invokevirtual 70, 3) := by decide +kernel
theorem dX4_judge_74 : decode cX4_judge 74 = .ok (.if_icmp .eq 7, 3) := by decide +kernel
theorem dX4_judge_77 : decode cX4_judge 77 = .ok (.iconst 1, 1) := by decide +kernel
theorem dX4_judge_78 : decode cX4_judge 78 = .ok (.iload_n 2, 1) := by decide +kernel
theorem dX4_judge_79 : decode cX4_judge 79 = .ok (.iadd, 1) := by decide +kernel
theorem dX4_judge_80 : decode cX4_judge 80 = .ok (.ireturn, 1) := by decide +kernel
theorem dX4_judge_81 : decode cX4_judge 81 = .ok (.iinc 2 1, 3) := by decide +kernel
theorem dX4_judge_84 : decode cX4_judge 84 = .ok (.goto (-49), 3) := by decide +kernel
theorem dX4_judge_87 : decode cX4_judge 87 = .ok (.iconst 0, 1) := by decide +kernel
theorem dX4_judge_88 : decode cX4_judge 88 = .ok (.ireturn, 1) := by decide +kernel
theorem dX4_image_0 : decode cX4_image 0 = .ok (.aload_n 0, 1) := by decide +kernel
theorem dX4_image_1 : decode cX4_image 1 = .ok (.getfield 16, 3) := by decide +kernel
theorem dX4_image_4 : decode cX4_image 4 = .ok (.aload_n 0, 1) := by decide +kernel
theorem dX4_image_5 : decode cX4_image 5 = .ok (.getfield 12, 3) := by decide +kernel
theorem dX4_image_8 : decode cX4_image 8 = .ok (.invokevirtual 168, 3) := by decide +kernel
theorem dX4_image_11 : decode cX4_image 11 = .ok (.aload_n 0, 1) := by decide +kernel
theorem dX4_image_12 : decode cX4_image 12 = .ok (.iconst 1, 1) := by decide +kernel
theorem dX4_image_13 : decode cX4_image 13 = .ok (.putfield 42, 3) := by decide +kernel
theorem dX4_image_16 : decode cX4_image 16 = .ok (.iconst 1, 1) := by decide +kernel
theorem dX4_image_17 : decode cX4_image 17 = .ok (.ireturn, 1) := by decide +kernel
theorem dX4_undo_0 : decode cX4_undo 0 = .ok (.aload_n 0, 1) := by decide +kernel
theorem dX4_undo_1 : decode cX4_undo 1 = .ok (.getfield 42, 3) := by decide +kernel
theorem dX4_undo_4 : decode cX4_undo 4 = .ok (.ifCond .ne 10, 3) := by decide +kernel
theorem dX4_undo_7 : decode cX4_undo 7 = .ok (.aload_n 0, 1) := by decide +kernel
theorem dX4_undo_8 : decode cX4_undo 8 = .ok (.ldc 167, 2) := by decide +kernel
theorem dX4_undo_10 : decode cX4_undo 10 = .ok (.invokevirtual 58, 3) := by decide +kernel
theorem dX4_undo_13 : decode cX4_undo 13 = .ok (.ireturn, 1) := by decide +kernel
theorem dX4_undo_14 : decode cX4_undo 14 = .ok (.aload_n 0, 1) := by decide +kernel
theorem dX4_undo_15 : decode cX4_undo 15 = .ok (.getfield 12, 3) := by decide +kernel
theorem dX4_undo_18 : decode cX4_undo 18 = .ok (.aload_n 0, 1) := by decide +kernel
theorem dX4_undo_19 : decode cX4_undo 19 = .ok (.getfield 16, 3) := by decide +kernel
theorem dX4_undo_22 : decode cX4_undo 22 = .ok (.invokevirtual 168, 3) := by decide +kernel
theorem dX4_undo_25 : decode cX4_undo 25 = .ok (.aload_n 0, 1) := by decide +kernel
theorem dX4_undo_26 : decode cX4_undo 26 = .ok (.getfield 12, 3) := by decide +kernel
theorem dX4_undo_29 : decode cX4_undo 29 = .ok (.getfield 126, 3) := by decide +kernel
