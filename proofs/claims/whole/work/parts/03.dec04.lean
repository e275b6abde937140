theorem dX5_nightBut_53 : decode cX5_nightBut 53 = .ok (.imul, 1) := by decide +kernel
theorem dX5_nightBut_54 : decode cX5_nightBut 54 = .ok (.iadd, 1) := by decide +kernel
theorem dX5_nightBut_55 : decode cX5_nightBut 55 = .ok (.iload_n 3, 1) := by decide +kernel
theorem dX5_nightBut_56 : decode cX5_nightBut 56 = .ok (.iadd, 1) := by decide +kernel
theorem dX5_nightBut_57 : decode cX5_nightBut 57 = .ok (.iload 4, 2) := by decide +kernel
theorem dX5_nightBut_59 : decode cX5_nightBut 59 = .ok (.aload_n 0, 1) := by decide +kernel
theorem dX5_nightBut_60 : decode cX5_nightBut 60 = .ok (.aload_n 0, 1) := by decide +kernel
theorem dX5_nightBut_61 : decode cX5_nightBut 61 = .ok (.iload_n 2, 1) := by decide +kernel
theorem dX5_nightBut_62 : decode cX5_nightBut 62 = .ok (.iconst 1, 1) := by decide +kernel
theorem dX5_nightBut_63 : decode cX5_nightBut 63 = .ok (.invokevirtual 67, 3) := by decide +kernel
theorem dX5_nightBut_66 : decode cX5_nightBut 66 = .ok (.iload_n 3, 1) := by decide +kernel
theorem dX5_nightBut_67 : decode cX5_nightBut 67 = .ok (.invokevirtual 64, 3) := by decide +kernel
theorem dX5_nightBut_70 : decode cX5_nightBut 70 = .ok (.invokestatic 125, 3) := by decide +kernel
theorem dX5_nightBut_73 : decode cX5_nightBut 73 = .ok (.invokevirtual 60, 3) := by decide +kernel
theorem dX5_nightBut_76 : decode cX5_nightBut 76 = .ok (.istore 5, 2) := by decide +kernel
theorem dX5_nightBut_78 : decode cX5_nightBut 78 = .ok (.aload_n 0, 1) := by decide +kernel
theorem dX5_nightBut_79 : decode cX5_nightBut 79 = .ok (.getfield 7, 3) := by decide +kernel
theorem dX5_nightBut_82 : decode cX5_nightBut 82 = .ok (.iload_n 2, 1) := by decide +kernel
theorem dX5_nightBut_83 : decode cX5_nightBut 83 = .ok (.iconst 3, 1) := by decide +kernel
theorem dX5_nightBut_84 : decode cX5_nightBut 84 = .ok (.invokestatic 84, 3) := by decide +kernel
theorem dX5_nightBut_87 : decode cX5_nightBut 87 = .ok (.sipush 9999, 3) := by decide +kernel
theorem dX5_nightBut_90 : decode cX5_nightBut 90 = .ok (.aload_n 0, 1) := by decide +kernel
theorem dX5_nightBut_91 : decode cX5_nightBut 91 = .ok (.iload_n 2, 1) := by decide +kernel
theorem dX5_nightBut_92 : decode cX5_nightBut 92 = .ok (.iconst 3, 1) := by decide +kernel
theorem dX5_nightBut_93 : decode cX5_nightBut 93 = .ok (.invokevirtual 67, 3) := by decide +kernel
theorem dX5_nightBut_96 : decode cX5_nightBut 96 = .ok (.iload 4, 2) := by decide +kernel
theorem dX5_nightBut_98 : decode cX5_nightBut 98 = .ok (.iload 5, 2) := by decide +kernel
theorem dX5_nightBut_100 : decode cX5_nightBut 100 = .ok (.invokestatic 128, 3) := by decide +kernel
theorem dX5_nightBut_103 : decode cX5_nightBut 103 = .ok (.iadd, 1) := by decide +kernel
theorem dX5_nightBut_104 : decode cX5_nightBut 104 = .ok (.invokestatic 109, 3) := by decide +kernel
theorem dX5_nightBut_107 : decode cX5_nightBut 107 = .ok (.iastore, 1) := by decide +kernel
theorem dX5_nightBut_108 : decode cX5_nightBut 108 = .ok (.iinc 2 1, 3) := by decide +kernel
theorem dX5_nightBut_111 : decode cX5_nightBut 111 = .ok (.goto (-109), 3) := by decide +kernel
theorem dX5_nightBut_114 : decode cX5_nightBut 114 = .ok (.aload_n 0, 1) := by decide +kernel
theorem dX5_nightBut_115 : decode cX5_nightBut 115 = .ok (.getfield 7, 3) := by decide +kernel
theorem dX5_nightBut_118 : decode cX5_nightBut 118 = .ok (.iconst 1, 1) := by decide +kernel
theorem dX5_nightBut_119 : decode cX5_nightBut 119 = .ok (.dup2, 1) := by decide +kernel
theorem dX5_nightBut_120 : decode cX5_nightBut 120 = .ok (.iaload, 1) := by decide +kernel
theorem dX5_nightBut_121 : decode cX5_nightBut 121 = .ok (.iconst 1, 1) := by decide +kernel
theorem dX5_nightBut_122 : decode cX5_nightBut 122 = .ok (.iadd, 1) := by decide +kernel
theorem dX5_nightBut_123 : decode cX5_nightBut 123 = .ok (.iastore, 1) := by decide +kernel
theorem dX5_nightBut_124 : decode cX5_nightBut 124 = .ok (.return_, 1) := by decide +kernel
theorem dX5_goes_0 : decode cX5_goes 0 = .ok (.iconst 0, 1) := by decide +kernel
theorem dX5_goes_1 : decode cX5_goes 1 = .ok (.istore_n 2, 1) := by decide +kernel
theorem dX5_goes_2 : decode cX5_goes 2 = .ok (.iload_n 2, 1) := by decide +kernel
theorem dX5_goes_3 : decode cX5_goes 3 = .ok (.iload_n 1, 1) := by decide +kernel
theorem dX5_goes_4 : decode cX5_goes 4 = .ok (.if_icmp .ge 14, 3) := by decide +kernel
theorem dX5_goes_7 : decode cX5_goes 7 = .ok (.aload_n 0, 1) := by decide +kernel
theorem dX5_goes_8 : decode cX5_goes 8 = .ok (.iconst 0, 1) := by decide +kernel
theorem dX5_goes_9 : decode cX5_goes 9 = .ok (.invokevirtual 131, 3) := by decide +kernel
theorem dX5_goes_12 : decode cX5_goes 12 = .ok (.iinc 2 1, 3) := by decide +kernel
theorem dX5_goes_15 : decode cX5_goes 15 = .ok (.goto (-13), 3) := by decide +kernel
theorem dX5_goes_18 : decode cX5_goes 18 = .ok (.return_, 1) := by decide +kernel
theorem dX5_holes_0 : decode cX5_holes 0 = .ok (.iconst 0, 1) := by decide +kernel
theorem dX5_holes_1 : decode cX5_holes 1 = .ok (.istore_n 1, 1) := by decide +kernel
theorem dX5_holes_2 : decode cX5_holes 2 = .ok (.iconst 0, 1) := by decide +kernel
theorem dX5_holes_3 : decode cX5_holes 3 = .ok (.istore_n 2, 1) := by decide +kernel
theorem dX5_holes_4 : decode cX5_holes 4 = .ok (.iload_n 2, 1) := by decide +kernel
theorem dX5_holes_5 : decode cX5_holes 5 = .ok (.bipush 48, 2) := by decide +kernel
theorem dX5_holes_7 : decode cX5_holes 7 = .ok (.if_icmp .ge 28, 3) := by decide +kernel
theorem dX5_holes_10 : decode cX5_holes 10 = .ok (.iload_n 1, 1) := by decide +kernel
theorem dX5_holes_11 : decode cX5_holes 11 = .ok (.aload_n 0, 1) := by decide +kernel
theorem dX5_holes_12 : decode cX5_holes 12 = .ok (.getfield 7, 3) := by decide +kernel
theorem dX5_holes_15 : decode cX5_holes 15 = .ok (.iconst 3, 1) := by decide +kernel
theorem dX5_holes_16 : decode cX5_holes 16 = .ok (.iload_n 2, 1) := by decide +kernel
theorem dX5_holes_17 : decode cX5_holes 17 = .ok (.iadd, 1) := by decide +kernel
theorem dX5_holes_18 : decode cX5_holes 18 = .ok (.iaload, 1) := by decide +kernel
theorem dX5_holes_19 : decode cX5_holes 19 = .ok (.ifCond .ne 7, 3) := by decide +kernel
theorem dX5_holes_22 : decode cX5_holes 22 = .ok (.iconst 1, 1) := by decide +kernel
theorem dX5_holes_23 : decode cX5_holes 23 = .ok (.goto 4, 3) := by decide +kernel
theorem dX5_holes_26 : decode cX5_holes 26 = .ok (.iconst 0, 1) := by decide +kernel
theorem dX5_holes_27 : decode cX5_holes 27 = .ok (.iadd, 1) := by decide +kernel
theorem dX5_holes_28 : decode cX5_holes 28 = .ok (.istore_n 1, 1) := by decide +kernel
theorem dX5_holes_29 : decode cX5_holes 29 = .ok (.iinc 2 1, 3) := by decide +kernel
theorem dX5_holes_32 : decode cX5_holes 32 = .ok (.goto (-28), 3) := by decide +kernel
theorem dX5_holes_35 : decode cX5_holes 35 = .ok (.iload_n 1, 1) := by decide +kernel
theorem dX5_holes_36 : decode cX5_holes 36 = .ok (.ireturn, 1) := by decide +kernel
theorem dX5_go_0 : decode cX5_go 0 = .ok (.iload_n 1, 1) := by decide +kernel
theorem dX5_go_1 : decode cX5_go 1 = .ok (.i2l, 1) := by decide +kernel
theorem dX5_go_2 : decode cX5_go 2 = .ok (.lconst 1, 1) := by decide +kernel
theorem dX5_go_3 : decode cX5_go 3 = .ok (.ldc2_w 135, 3) := by decide +kernel
theorem dX5_go_6 : decode cX5_go 6 = .ok (.invokestatic 56, 3) := by decide +kernel
theorem dX5_go_9 : decode cX5_go 9 = .ok (.ifCond .ne 10, 3) := by decide +kernel
theorem dX5_go_12 : decode cX5_go 12 = .ok (.aload_n 0, 1) := by decide +kernel
theorem dX5_go_13 : decode cX5_go 13 = .ok (.ldc 40, 2) := by decide +kernel
theorem dX5_go_15 : decode cX5_go 15 = .ok (.invokevirtual 46, 3) := by decide +kernel
theorem dX5_go_18 : decode cX5_go 18 = .ok (.ireturn, 1) := by decide +kernel
theorem dX5_go_19 : decode cX5_go 19 = .ok (.aload_n 0, 1) := by decide +kernel
theorem dX5_go_20 : decode cX5_go 20 = .ok (.getfield 7, 3) := by decide +kernel
theorem dX5_go_23 : decode cX5_go 23 = .ok (.iconst 1, 1) := by decide +kernel
theorem dX5_go_24 : decode cX5_go 24 = .ok (.iaload, 1) := by decide +kernel
theorem dX5_go_25 : decode cX5_go 25 = .ok (.iload_n 1, 1) := by decide +kernel
theorem dX5_go_26 : decode cX5_go 26 = .ok (.iadd, 1) := by decide +kernel
theorem dX5_go_27 : decode cX5_go 27 = .ok (.ldc 137, 2) := by decide +kernel
theorem dX5_go_29 : decode cX5_go 29 = .ok (.if_icmp .le 10, 3) := by decide +kernel
theorem dX5_go_32 : decode cX5_go 32 = .ok (.aload_n 0, 1) := by decide +kernel
theorem dX5_go_33 : decode cX5_go 33 = .ok (.ldc 138, 2) := by decide +kernel
theorem dX5_go_35 : decode cX5_go 35 = .ok (.invokevirtual 46, 3) := by decide +kernel
theorem dX5_go_38 : decode cX5_go 38 = .ok (.ireturn, 1) := by decide +kernel
theorem dX5_go_39 : decode cX5_go 39 = .ok (.aload_n 0, 1) := by decide +kernel
theorem dX5_go_40 : decode cX5_go 40 = .ok (.iload_n 1, 1) := by decide +kernel
theorem dX5_go_41 : decode cX5_go 41 = .ok (.invokevirtual 139, 3) := by decide +kernel
theorem dX5_go_44 : decode cX5_go 44 = .ok (.aload_n 0, 1) := by decide +kernel
theorem dX5_go_45 : decode cX5_go 45 = .ok (.invokevirtual 142, 3) := by decide +kernel
theorem dX5_go_48 : decode cX5_go 48 = .ok (.ireturn, 1) := by decide +kernel
theorem dX5_saysAll_0 : decode cX5_saysAll 0 = .ok (.iconst 0, 1) := by decide +kernel
theorem dX5_saysAll_1 : decode cX5_saysAll 1 = .ok (.istore_n 1, 1) := by decide +kernel
theorem dX5_saysAll_2 : decode cX5_saysAll 2 = .ok (.iconst 0, 1) := by decide +kernel
theorem dX5_saysAll_3 : decode cX5_saysAll 3 = .ok (.istore_n 2, 1) := by decide +kernel
theorem dX5_saysAll_4 : decode cX5_saysAll 4 = .ok (.iload_n 2, 1) := by decide +kernel
theorem dX5_saysAll_5 : decode cX5_saysAll 5 = .ok (.bipush 6, 2) := by decide +kernel
theorem dX5_saysAll_7 : decode cX5_saysAll 7 = .ok (.if_icmp .ge 17, 3) := by decide +kernel
theorem dX5_saysAll_10 : decode cX5_saysAll 10 = .ok (.iload_n 1, 1) := by decide +kernel
theorem dX5_saysAll_11 : decode cX5_saysAll 11 = .ok (.aload_n 0, 1) := by decide +kernel
theorem dX5_saysAll_12 : decode cX5_saysAll 12 = .ok (.iload_n 2, 1) := by decide +kernel
theorem dX5_saysAll_13 : decode cX5_saysAll 13 = .ok (.invokevirtual 72, 3) := by decide +kernel
theorem dX5_saysAll_16 : decode cX5_saysAll 16 = .ok (.iadd, 1) := by decide +kernel
theorem dX5_saysAll_17 : decode cX5_saysAll 17 = .ok (.istore_n 1, 1) := by decide +kernel
theorem dX5_saysAll_18 : decode cX5_saysAll 18 = .ok (.iinc 2 1, 3) := by decide +kernel
theorem dX5_saysAll_21 : decode cX5_saysAll 21 = .ok (.goto (-17), 3) := by decide +kernel
theorem dX5_saysAll_24 : decode cX5_saysAll 24 = .ok (.iload_n 1, 1) := by decide +kernel
theorem dX5_saysAll_25 : decode cX5_saysAll 25 = .ok (.ireturn, 1) := by decide +kernel
theorem dX5_fedAll_0 : decode cX5_fedAll 0 = .ok (.iconst 0, 1) := by decide +kernel
theorem dX5_fedAll_1 : decode cX5_fedAll 1 = .ok (.istore_n 1, 1) := by decide +kernel
theorem dX5_fedAll_2 : decode cX5_fedAll 2 = .ok (.iconst 0, 1) := by decide +kernel
theorem dX5_fedAll_3 : decode cX5_fedAll 3 = .ok (.istore_n 2, 1) := by decide +kernel
theorem dX5_fedAll_4 : decode cX5_fedAll 4 = .ok (.iload_n 2, 1) := by decide +kernel
theorem dX5_fedAll_5 : decode cX5_fedAll 5 = .ok (.aload_n 0, 1) := by decide +kernel
theorem dX5_fedAll_6 : decode cX5_fedAll 6 = .ok (.getfield 7, 3) := by decide +kernel
theorem dX5_fedAll_9 : decode cX5_fedAll 9 = .ok (.iconst 0, 1) := by decide +kernel
theorem dX5_fedAll_10 : decode cX5_fedAll 10 = .ok (.iaload, 1) := by decide +kernel
theorem dX5_fedAll_11 : decode cX5_fedAll 11 = .ok (.if_icmp .ge 18, 3) := by decide +kernel
theorem dX5_fedAll_14 : decode cX5_fedAll 14 = .ok (.iload_n 1, 1) := by decide +kernel
theorem dX5_fedAll_15 : decode cX5_fedAll 15 = .ok (.aload_n 0, 1) := by decide +kernel
theorem dX5_fedAll_16 : decode cX5_fedAll 16 = .ok (.iload_n 2, 1) := by decide +kernel
theorem dX5_fedAll_17 : decode cX5_fedAll 17 = .ok (.iconst 3, 1) := by decide +kernel
theorem dX5_fedAll_18 : decode cX5_fedAll 18 = .ok (.invokevirtual 67, 3) := by decide +kernel
theorem dX5_fedAll_21 : decode cX5_fedAll 21 = .ok (.iadd, 1) := by decide +kernel
theorem dX5_fedAll_22 : decode cX5_fedAll 22 = .ok (.istore_n 1, 1) := by decide +kernel
theorem dX5_fedAll_23 : decode cX5_fedAll 23 = .ok (.iinc 2 1, 3) := by decide +kernel
theorem dX5_fedAll_26 : decode cX5_fedAll 26 = .ok (.goto (-22), 3) := by decide +kernel
theorem dX5_fedAll_29 : decode cX5_fedAll 29 = .ok (.iload_n 1, 1) := by decide +kernel
theorem dX5_fedAll_30 : decode cX5_fedAll 30 = .ok (.ireturn, 1) := by decide +kernel
theorem dX5_hungry_0 : decode cX5_hungry 0 = .ok (.iconst 0, 1) := by decide +kernel
theorem dX5_hungry_1 : decode cX5_hungry 1 = .ok (.istore_n 1, 1) := by decide +kernel
theorem dX5_hungry_2 : decode cX5_hungry 2 = .ok (.iconst 0, 1) := by decide +kernel
theorem dX5_hungry_3 : decode cX5_hungry 3 = .ok (.istore_n 2, 1) := by decide +kernel
theorem dX5_hungry_4 : decode cX5_hungry 4 = .ok (.iload_n 2, 1) := by decide +kernel
theorem dX5_hungry_5 : decode cX5_hungry 5 = .ok (.aload_n 0, 1) := by decide +kernel
theorem dX5_hungry_6 : decode cX5_hungry 6 = .ok (.getfield 7, 3) := by decide +kernel
theorem dX5_hungry_9 : decode cX5_hungry 9 = .ok (.iconst 0, 1) := by decide +kernel
theorem dX5_hungry_10 : decode cX5_hungry 10 = .ok (.iaload, 1) := by decide +kernel
theorem dX5_hungry_11 : decode cX5_hungry 11 = .ok (.if_icmp .ge 27, 3) := by decide +kernel
theorem dX5_hungry_14 : decode cX5_hungry 14 = .ok (.iload_n 1, 1) := by decide +kernel
theorem dX5_hungry_15 : decode cX5_hungry 15 = .ok (.aload_n 0, 1) := by decide +kernel
theorem dX5_hungry_16 : decode cX5_hungry 16 = .ok (.iload_n 2, 1) := by decide +kernel
theorem dX5_hungry_17 : decode cX5_hungry 17 = .ok (.invokevirtual 117, 3) := by decide +kernel
theorem dX5_hungry_20 : decode cX5_hungry 20 = .ok (.ifCond .ge 9, 3) := by decide +kernel
theorem dX5_hungry_23 : decode cX5_hungry 23 = .ok (.iconst 1, 1) := by decide +kernel
theorem dX5_hungry_24 : decode cX5_hungry 24 = .ok (.iload_n 2, 1) := by decide +kernel
theorem dX5_hungry_25 : decode cX5_hungry 25 = .ok (.ishl, 1) := by decide +kernel
theorem dX5_hungry_26 : decode cX5_hungry 26 = .ok (.goto 4, 3) := by decide +kernel
theorem dX5_hungry_29 : decode cX5_hungry 29 = .ok (.iconst 0, 1) := by decide +kernel
theorem dX5_hungry_30 : decode cX5_hungry 30 = .ok (.ior, 1) := by decide +kernel
theorem dX5_hungry_31 : decode cX5_hungry 31 = .ok (.istore_n 1, 1) := by decide +kernel
theorem dX5_hungry_32 : decode cX5_hungry 32 = .ok (.iinc 2 1, 3) := by decide +kernel
theorem dX5_hungry_35 : decode cX5_hungry 35 = .ok (.goto (-31), 3) := by decide +kernel
theorem dX5_hungry_38 : decode cX5_hungry 38 = .ok (.iload_n 1, 1) := by decide +kernel
theorem dX5_hungry_39 : decode cX5_hungry 39 = .ok (.ireturn, 1) := by decide +kernel
theorem dX5_barePages_0 : decode cX5_barePages 0 = .ok (.iconst 0, 1) := by decide +kernel
theorem dX5_barePages_1 : decode cX5_barePages 1 = .ok (.istore_n 1, 1) := by decide +kernel
theorem dX5_barePages_2 : decode cX5_barePages 2 = .ok (.iconst 0, 1) := by decide +kernel
theorem dX5_barePages_3 : decode cX5_barePages 3 = .ok (.istore_n 2, 1) := by decide +kernel
theorem dX5_barePages_4 : decode cX5_barePages 4 = .ok (.iload_n 2, 1) := by decide +kernel
theorem dX5_barePages_5 : decode cX5_barePages 5 = .ok (.bipush 6, 2) := by decide +kernel
theorem dX5_barePages_7 : decode cX5_barePages 7 = .ok (.if_icmp .ge 27, 3) := by decide +kernel
theorem dX5_barePages_10 : decode cX5_barePages 10 = .ok (.iload_n 1, 1) := by decide +kernel
theorem dX5_barePages_11 : decode cX5_barePages 11 = .ok (.aload_n 0, 1) := by decide +kernel
theorem dX5_barePages_12 : decode cX5_barePages 12 = .ok (.iload_n 2, 1) := by decide +kernel
theorem dX5_barePages_13 : decode cX5_barePages 13 = .ok (.invokevirtual 75, 3) := by decide +kernel
theorem dX5_barePages_16 : decode cX5_barePages 16 = .ok (.ifCond .ne 9, 3) := by decide +kernel
theorem dX5_barePages_19 : decode cX5_barePages 19 = .ok (.iconst 1, 1) := by decide +kernel
theorem dX5_barePages_20 : decode cX5_barePages 20 = .ok (.iload_n 2, 1) := by decide +kernel
theorem dX5_barePages_21 : decode cX5_barePages 21 = .ok (.ishl, 1) := by decide +kernel
theorem dX5_barePages_22 : decode cX5_barePages 22 = .ok (.goto 4, 3) := by decide +kernel
theorem dX5_barePages_25 : decode cX5_barePages 25 = .ok (.iconst 0, 1) := by decide +kernel
theorem dX5_barePages_26 : decode cX5_barePages 26 = .ok (.ior, 1) := by decide +kernel
theorem dX5_barePages_27 : decode cX5_barePages 27 = .ok (.istore_n 1, 1) := by decide +kernel
theorem dX5_barePages_28 : decode cX5_barePages 28 = .ok (.iinc 2 1, 3) := by decide +kernel
theorem dX5_barePages_31 : decode cX5_barePages 31 = .ok (.goto (-27), 3) := by decide +kernel
theorem dX5_barePages_34 : decode cX5_barePages 34 = .ok (.iload_n 1, 1) := by decide +kernel
theorem dX5_barePages_35 : decode cX5_barePages 35 = .ok (.ireturn, 1) := by decide +kernel
theorem dX5_now_0 : decode cX5_now 0 = .ok (.iload_n 1, 1) := by decide +kernel
theorem dX5_now_1 : decode cX5_now 1 = .ok (.tableswitch 71 0 5 #[39, 46, 51, 56, 61, 66], 39) := by decide +kernel
theorem dX5_now_40 : decode cX5_now 40 = .ok (.aload_n 0, 1) := by decide +kernel
theorem dX5_now_41 : decode cX5_now 41 = .ok (.getfield 7, 3) := by decide +kernel
theorem dX5_now_44 : decode cX5_now 44 = .ok (.iconst 1, 1) := by decide +kernel
theorem dX5_now_45 : decode cX5_now 45 = .ok (.iaload, 1) := by decide +kernel
theorem dX5_now_46 : decode cX5_now 46 = .ok (.ireturn, 1) := by decide +kernel
theorem dX5_now_47 : decode cX5_now 47 = .ok (.aload_n 0, 1) := by decide +kernel
theorem dX5_now_48 : decode cX5_now 48 = .ok (.invokevirtual 142, 3) := by decide +kernel
theorem dX5_now_51 : decode cX5_now 51 = .ok (.ireturn, 1) := by decide +kernel
theorem dX5_now_52 : decode cX5_now 52 = .ok (.aload_n 0, 1) := by decide +kernel
theorem dX5_now_53 : decode cX5_now 53 = .ok (.invokevirtual 146, 3) := by decide +kernel
theorem dX5_now_56 : decode cX5_now 56 = .ok (.ireturn, 1) := by decide +kernel
theorem dX5_now_57 : decode cX5_now 57 = .ok (.aload_n 0, 1) := by decide +kernel
theorem dX5_now_58 : decode cX5_now 58 = .ok (.invokevirtual 149, 3) := by decide +kernel
theorem dX5_now_61 : decode cX5_now 61 = .ok (.ireturn, 1) := by decide +kernel
theorem dX5_now_62 : decode cX5_now 62 = .ok (.aload_n 0, 1) := by decide +kernel
theorem dX5_now_63 : decode cX5_now 63 = .ok (.invokevirtual 152, 3) := by decide +kernel
theorem dX5_now_66 : decode cX5_now 66 = .ok (.ireturn, 1) := by decide +kernel
theorem dX5_now_67 : decode cX5_now 67 = .ok (.aload_n 0, 1) := by decide +kernel
theorem dX5_now_68 : decode cX5_now 68 = .ok (.invokevirtual 155, 3) := by decide +kernel
theorem dX5_now_71 : decode cX5_now 71 = .ok (.ireturn, 1) := by decide +kernel
theorem dX5_now_72 : decode cX5_now 72 = .ok (.aload_n 0, 1) := by decide +kernel
theorem dX5_now_73 : decode cX5_now 73 = .ok (.ldc 40, 2) := by decide +kernel
theorem dX5_now_75 : decode cX5_now 75 = .ok (.invokevirtual 46, 3) := by decide +kernel
theorem dX5_now_78 : decode cX5_now 78 = .ok (.ireturn, 1) := by decide +kernel
theorem dX5_ahead_0 : decode cX5_ahead 0 = .ok (.iload_n 1, 1) := by decide +kernel
theorem dX5_ahead_1 : decode cX5_ahead 1 = .ok (.iload_n 2, 1) := by decide +kernel
theorem dX5_ahead_2 : decode cX5_ahead 2 = .ok (.invokestatic 50, 3) := by decide +kernel
theorem dX5_ahead_5 : decode cX5_ahead 5 = .ok (.ifCond .eq 15, 3) := by decide +kernel
theorem dX5_ahead_8 : decode cX5_ahead 8 = .ok (.iload_n 3, 1) := by decide +kernel
theorem dX5_ahead_9 : decode cX5_ahead 9 = .ok (.i2l, 1) := by decide +kernel
theorem dX5_ahead_10 : decode cX5_ahead 10 = .ok (.lconst 0, 1) := by decide +kernel
theorem dX5_ahead_11 : decode cX5_ahead 11 = .ok (.ldc2_w 158, 3) := by decide +kernel
theorem dX5_ahead_14 : decode cX5_ahead 14 = .ok (.invokestatic 56, 3) := by decide +kernel
theorem dX5_ahead_17 : decode cX5_ahead 17 = .ok (.ifCond .ne 10, 3) := by decide +kernel
theorem dX5_ahead_20 : decode cX5_ahead 20 = .ok (.aload_n 0, 1) := by decide +kernel
theorem dX5_ahead_21 : decode cX5_ahead 21 = .ok (.ldc 40, 2) := by decide +kernel
theorem dX5_ahead_23 : decode cX5_ahead 23 = .ok (.invokevirtual 46, 3) := by decide +kernel
theorem dX5_ahead_26 : decode cX5_ahead 26 = .ok (.ireturn, 1) := by decide +kernel
theorem dX5_ahead_27 : decode cX5_ahead 27 = .ok (.aload_n 0, 1) := by decide +kernel
theorem dX5_ahead_28 : decode cX5_ahead 28 = .ok (.getfield 7, 3) := by decide +kernel
theorem dX5_ahead_31 : decode cX5_ahead 31 = .ok (.aload_n 0, 1) := by decide +kernel
theorem dX5_ahead_32 : decode cX5_ahead 32 = .ok (.getfield 19, 3) := by decide +kernel
theorem dX5_ahead_35 : decode cX5_ahead 35 = .ok (.invokestatic 160, 3) := by decide +kernel
theorem dX5_ahead_38 : decode cX5_ahead 38 = .ok (.aload_n 0, 1) := by decide +kernel
theorem dX5_ahead_39 : decode cX5_ahead 39 = .ok (.iload_n 3, 1) := by decide +kernel
theorem dX5_ahead_40 : decode cX5_ahead 40 = .ok (.invokevirtual 139, 3) := by decide +kernel
theorem dX5_ahead_43 : decode cX5_ahead 43 = .ok (.aload_n 0, 1) := by decide +kernel
theorem dX5_ahead_44 : decode cX5_ahead 44 = .ok (.iload_n 1, 1) := by decide +kernel
theorem dX5_ahead_45 : decode cX5_ahead 45 = .ok (.iload_n 2, 1) := by decide +kernel
theorem dX5_ahead_46 : decode cX5_ahead 46 = .ok (.invokevirtual 64, 3) := by decide +kernel
theorem dX5_ahead_49 : decode cX5_ahead 49 = .ok (.istore 4, 2) := by decide +kernel
theorem dX5_ahead_51 : decode cX5_ahead 51 = .ok (.aload_n 0, 1) := by decide +kernel
theorem dX5_ahead_52 : decode cX5_ahead 52 = .ok (.getfield 19, 3) := by decide +kernel
theorem dX5_ahead_55 : decode cX5_ahead 55 = .ok (.aload_n 0, 1) := by decide +kernel
theorem dX5_ahead_56 : decode cX5_ahead 56 = .ok (.getfield 7, 3) := by decide +kernel
theorem dX5_ahead_59 : decode cX5_ahead 59 = .ok (.invokestatic 160, 3) := by decide +kernel
theorem dX5_ahead_62 : decode cX5_ahead 62 = .ok (.iload 4, 2) := by decide +kernel
theorem dX5_ahead_64 : decode cX5_ahead 64 = .ok (.ireturn, 1) := by decide +kernel
theorem dX5_saysIn_0 : decode cX5_saysIn 0 = .ok (.aload_n 0, 1) := by decide +kernel
theorem dX5_saysIn_1 : decode cX5_saysIn 1 = .ok (.getfield 7, 3) := by decide +kernel
theorem dX5_saysIn_4 : decode cX5_saysIn 4 = .ok (.aload_n 0, 1) := by decide +kernel
theorem dX5_saysIn_5 : decode cX5_saysIn 5 = .ok (.getfield 19, 3) := by decide +kernel
theorem dX5_saysIn_8 : decode cX5_saysIn 8 = .ok (.invokestatic 160, 3) := by decide +kernel
theorem dX5_saysIn_11 : decode cX5_saysIn 11 = .ok (.aload_n 0, 1) := by decide +kernel
theorem dX5_saysIn_12 : decode cX5_saysIn 12 = .ok (.iload_n 2, 1) := by decide +kernel
theorem dX5_saysIn_13 : decode cX5_saysIn 13 = .ok (.invokevirtual 139, 3) := by decide +kernel
theorem dX5_saysIn_16 : decode cX5_saysIn 16 = .ok (.aload_n 0, 1) := by decide +kernel
theorem dX5_saysIn_17 : decode cX5_saysIn 17 = .ok (.iload_n 1, 1) := by decide +kernel
theorem dX5_saysIn_18 : decode cX5_saysIn 18 = .ok (.invokevirtual 72, 3) := by decide +kernel
theorem dX5_saysIn_21 : decode cX5_saysIn 21 = .ok (.istore_n 3, 1) := by decide +kernel
theorem dX5_saysIn_22 : decode cX5_saysIn 22 = .ok (.aload_n 0, 1) := by decide +kernel
theorem dX5_saysIn_23 : decode cX5_saysIn 23 = .ok (.getfield 19, 3) := by decide +kernel
theorem dX5_saysIn_26 : decode cX5_saysIn 26 = .ok (.aload_n 0, 1) := by decide +kernel
theorem dX5_saysIn_27 : decode cX5_saysIn 27 = .ok (.getfield 7, 3) := by decide +kernel
theorem dX5_saysIn_30 : decode cX5_saysIn 30 = .ok (.invokestatic 160, 3) := by decide +kernel
theorem dX5_saysIn_33 : decode cX5_saysIn 33 = .ok (.iload_n 3, 1) := by decide +kernel
theorem dX5_saysIn_34 : decode cX5_saysIn 34 = .ok (.ireturn, 1) := by decide +kernel
theorem dX5_says_0 : decode cX5_says 0 = .ok (.iload_n 1, 1) := by decide +kernel
theorem dX5_says_1 : decode cX5_says 1 = .ok (.invokestatic 41, 3) := by decide +kernel
theorem dX5_says_4 : decode cX5_says 4 = .ok (.ifCond .eq 24, 3) := by decide +kernel
theorem dX5_says_7 : decode cX5_says 7 = .ok (.iload_n 2, 1) := by decide +kernel
theorem dX5_says_8 : decode cX5_says 8 = .ok (.i2l, 1) := by decide +kernel
theorem dX5_says_9 : decode cX5_says 9 = .ok (.lconst 0, 1) := by decide +kernel
theorem dX5_says_10 : decode cX5_says 10 = .ok (.ldc2_w 158, 3) := by decide +kernel
theorem dX5_says_13 : decode cX5_says 13 = .ok (.invokestatic 56, 3) := by decide +kernel
theorem dX5_says_16 : decode cX5_says 16 = .ok (.ifCond .eq 12, 3) := by decide +kernel
theorem dX5_says_19 : decode cX5_says 19 = .ok (.aload_n 0, 1) := by decide +kernel
theorem dX5_says_20 : decode cX5_says 20 = .ok (.iload_n 1, 1) := by decide +kernel
theorem dX5_says_21 : decode cX5_says 21 = .ok (.iload_n 2, 1) := by decide +kernel
theorem dX5_says_22 : decode cX5_says 22 = .ok (.invokevirtual 164, 3) := by decide +kernel
theorem dX5_says_25 : decode cX5_says 25 = .ok (.goto 9, 3) := by decide +kernel
theorem dX5_says_28 : decode cX5_says 28 = .ok (.aload_n 0, 1) := by decide +kernel
theorem dX5_says_29 : decode cX5_says 29 = .ok (.ldc 40, 2) := by decide +kernel
theorem dX5_says_31 : decode cX5_says 31 = .ok (.invokevirtual 46, 3) := by decide +kernel
theorem dX5_says_34 : decode cX5_says 34 = .ok (.ireturn, 1) := by decide +kernel
theorem dX5_fed_0 : decode cX5_fed 0 = .ok (.aload_n 0, 1) := by decide +kernel
theorem dX5_fed_1 : decode cX5_fed 1 = .ok (.iload_n 1, 1) := by decide +kernel
theorem dX5_fed_2 : decode cX5_fed 2 = .ok (.invokevirtual 112, 3) := by decide +kernel
theorem dX5_fed_5 : decode cX5_fed 5 = .ok (.ifCond .eq 15, 3) := by decide +kernel
theorem dX5_fed_8 : decode cX5_fed 8 = .ok (.iload_n 2, 1) := by decide +kernel
theorem dX5_fed_9 : decode cX5_fed 9 = .ok (.i2l, 1) := by decide +kernel
theorem dX5_fed_10 : decode cX5_fed 10 = .ok (.lconst 0, 1) := by decide +kernel
theorem dX5_fed_11 : decode cX5_fed 11 = .ok (.ldc2_w 158, 3) := by decide +kernel
theorem dX5_fed_14 : decode cX5_fed 14 = .ok (.invokestatic 56, 3) := by decide +kernel
theorem dX5_fed_17 : decode cX5_fed 17 = .ok (.ifCond .ne 10, 3) := by decide +kernel
theorem dX5_fed_20 : decode cX5_fed 20 = .ok (.aload_n 0, 1) := by decide +kernel
theorem dX5_fed_21 : decode cX5_fed 21 = .ok (.ldc 40, 2) := by decide +kernel
theorem dX5_fed_23 : decode cX5_fed 23 = .ok (.invokevirtual 46, 3) := by decide +kernel
theorem dX5_fed_26 : decode cX5_fed 26 = .ok (.ireturn, 1) := by decide +kernel
theorem dX5_fed_27 : decode cX5_fed 27 = .ok (.aload_n 0, 1) := by decide +kernel
theorem dX5_fed_28 : decode cX5_fed 28 = .ok (.getfield 7, 3) := by decide +kernel
theorem dX5_fed_31 : decode cX5_fed 31 = .ok (.aload_n 0, 1) := by decide +kernel
theorem dX5_fed_32 : decode cX5_fed 32 = .ok (.getfield 19, 3) := by decide +kernel
theorem dX5_fed_35 : decode cX5_fed 35 = .ok (.invokestatic 160, 3) := by decide +kernel
theorem dX5_fed_38 : decode cX5_fed 38 = .ok (.aload_n 0, 1) := by decide +kernel
theorem dX5_fed_39 : decode cX5_fed 39 = .ok (.iload_n 2, 1) := by decide +kernel
theorem dX5_fed_40 : decode cX5_fed 40 = .ok (.invokevirtual 139, 3) := by decide +kernel
theorem dX5_fed_43 : decode cX5_fed 43 = .ok (.aload_n 0, 1) := by decide +kernel
theorem dX5_fed_44 : decode cX5_fed 44 = .ok (.iload_n 1, 1) := by decide +kernel
theorem dX5_fed_45 : decode cX5_fed 45 = .ok (.iconst 3, 1) := by decide +kernel
theorem dX5_fed_46 : decode cX5_fed 46 = .ok (.invokevirtual 67, 3) := by decide +kernel
theorem dX5_fed_49 : decode cX5_fed 49 = .ok (.istore_n 3, 1) := by decide +kernel
theorem dX5_fed_50 : decode cX5_fed 50 = .ok (.aload_n 0, 1) := by decide +kernel
theorem dX5_fed_51 : decode cX5_fed 51 = .ok (.getfield 19, 3) := by decide +kernel
theorem dX5_fed_54 : decode cX5_fed 54 = .ok (.aload_n 0, 1) := by decide +kernel
theorem dX5_fed_55 : decode cX5_fed 55 = .ok (.getfield 7, 3) := by decide +kernel
theorem dX5_fed_58 : decode cX5_fed 58 = .ok (.invokestatic 160, 3) := by decide +kernel
theorem dX5_fed_61 : decode cX5_fed 61 = .ok (.iload_n 3, 1) := by decide +kernel
theorem dX5_fed_62 : decode cX5_fed 62 = .ok (.ireturn, 1) := by decide +kernel
theorem dX5_bare_0 : decode cX5_bare 0 = .ok (.iload_n 1, 1) := by decide +kernel
theorem dX5_bare_1 : decode cX5_bare 1 = .ok (.invokestatic 41, 3) := by decide +kernel
theorem dX5_bare_4 : decode cX5_bare 4 = .ok (.ifCond .ne 10, 3) := by decide +kernel
theorem dX5_bare_7 : decode cX5_bare 7 = .ok (.aload_n 0, 1) := by decide +kernel
theorem dX5_bare_8 : decode cX5_bare 8 = .ok (.ldc 40, 2) := by decide +kernel
theorem dX5_bare_10 : decode cX5_bare 10 = .ok (.invokevirtual 46, 3) := by decide +kernel
theorem dX5_bare_13 : decode cX5_bare 13 = .ok (.ireturn, 1) := by decide +kernel
theorem dX5_bare_14 : decode cX5_bare 14 = .ok (.aload_n 0, 1) := by decide +kernel
theorem dX5_bare_15 : decode cX5_bare 15 = .ok (.getfield 7, 3) := by decide +kernel
theorem dX5_bare_18 : decode cX5_bare 18 = .ok (.aload_n 0, 1) := by decide +kernel
theorem dX5_bare_19 : decode cX5_bare 19 = .ok (.getfield 19, 3) := by decide +kernel
theorem dX5_bare_22 : decode cX5_bare 22 = .ok (.invokestatic 160, 3) := by decide +kernel
theorem dX5_bare_25 : decode cX5_bare 25 = .ok (.iconst 0, 1) := by decide +kernel
theorem dX5_bare_26 : decode cX5_bare 26 = .ok (.istore_n 2, 1) := by decide +kernel
theorem dX5_bare_27 : decode cX5_bare 27 = .ok (.iload_n 2, 1) := by decide +kernel
theorem dX5_bare_28 : decode cX5_bare 28 = .ok (.sipush 200, 3) := by decide +kernel
theorem dX5_bare_31 : decode cX5_bare 31 = .ok (.if_icmp .gt 22, 3) := by decide +kernel
theorem dX5_bare_34 : decode cX5_bare 34 = .ok (.aload_n 0, 1) := by decide +kernel
theorem dX5_bare_35 : decode cX5_bare 35 = .ok (.iload_n 1, 1) := by decide +kernel
theorem dX5_bare_36 : decode cX5_bare 36 = .ok (.invokevirtual 75, 3) := by decide +kernel
theorem dX5_bare_39 : decode cX5_bare 39 = .ok (.ifCond .eq 14, 3) := by decide +kernel
theorem dX5_bare_42 : decode cX5_bare 42 = .ok (.aload_n 0, 1) := by decide +kernel
theorem dX5_bare_43 : decode cX5_bare 43 = .ok (.iconst 0, 1) := by decide +kernel
theorem dX5_bare_44 : decode cX5_bare 44 = .ok (.invokevirtual 131, 3) := by decide +kernel
theorem dX5_bare_47 : decode cX5_bare 47 = .ok (.iinc 2 1, 3) := by decide +kernel
theorem dX5_bare_50 : decode cX5_bare 50 = .ok (.goto (-23), 3) := by decide +kernel
theorem dX5_bare_53 : decode cX5_bare 53 = .ok (.aload_n 0, 1) := by decide +kernel
theorem dX5_bare_54 : decode cX5_bare 54 = .ok (.getfield 19, 3) := by decide +kernel
theorem dX5_bare_57 : decode cX5_bare 57 = .ok (.aload_n 0, 1) := by decide +kernel
theorem dX5_bare_58 : decode cX5_bare 58 = .ok (.getfield 7, 3) := by decide +kernel
theorem dX5_bare_61 : decode cX5_bare 61 = .ok (.invokestatic 160, 3) := by decide +kernel
theorem dX5_bare_64 : decode cX5_bare 64 = .ok (.iload_n 2, 1) := by decide +kernel
theorem dX5_bare_65 : decode cX5_bare 65 = .ok (.sipush 200, 3) := by decide +kernel
theorem dX5_bare_68 : decode cX5_bare 68 = .ok (.if_icmp .gt 7, 3) := by decide +kernel
theorem dX5_bare_71 : decode cX5_bare 71 = .ok (.iload_n 2, 1) := by decide +kernel
theorem dX5_bare_72 : decode cX5_bare 72 = .ok (.goto 9, 3) := by decide +kernel
theorem dX5_bare_75 : decode cX5_bare 75 = .ok (.aload_n 0, 1) := by decide +kernel
theorem dX5_bare_76 : decode cX5_bare 76 = .ok (.ldc 45, 2) := by decide +kernel
theorem dX5_bare_78 : decode cX5_bare 78 = .ok (.invokevirtual 46, 3) := by decide +kernel
theorem dX5_bare_81 : decode cX5_bare 81 = .ok (.ireturn, 1) := by decide +kernel
theorem dX5_when_0 : decode cX5_when 0 = .ok (.iload_n 1, 1) := by decide +kernel
theorem dX5_when_1 : decode cX5_when 1 = .ok (.invokestatic 41, 3) := by decide +kernel
theorem dX5_when_4 : decode cX5_when 4 = .ok (.ifCond .eq 15, 3) := by decide +kernel
theorem dX5_when_7 : decode cX5_when 7 = .ok (.iload_n 2, 1) := by decide +kernel
theorem dX5_when_8 : decode cX5_when 8 = .ok (.i2l, 1) := by decide +kernel
theorem dX5_when_9 : decode cX5_when 9 = .ok (.lconst 0, 1) := by decide +kernel
theorem dX5_when_10 : decode cX5_when 10 = .ok (.ldc2_w 167, 3) := by decide +kernel
theorem dX5_when_13 : decode cX5_when 13 = .ok (.invokestatic 56, 3) := by decide +kernel
theorem dX5_when_16 : decode cX5_when 16 = .ok (.ifCond .ne 10, 3) := by decide +kernel
theorem dX5_when_19 : decode cX5_when 19 = .ok (.aload_n 0, 1) := by decide +kernel
theorem dX5_when_20 : decode cX5_when 20 = .ok (.ldc 40, 2) := by decide +kernel
theorem dX5_when_22 : decode cX5_when 22 = .ok (.invokevirtual 46, 3) := by decide +kernel
theorem dX5_when_25 : decode cX5_when 25 = .ok (.ireturn, 1) := by decide +kernel
theorem dX5_when_26 : decode cX5_when 26 = .ok (.aload_n 0, 1) := by decide +kernel
theorem dX5_when_27 : decode cX5_when 27 = .ok (.getfield 7, 3) := by decide +kernel
theorem dX5_when_30 : decode cX5_when 30 = .ok (.aload_n 0, 1) := by decide +kernel
theorem dX5_when_31 : decode cX5_when 31 = .ok (.getfield 19, 3) := by decide +kernel
theorem dX5_when_34 : decode cX5_when 34 = .ok (.invokestatic 160, 3) := by decide +kernel
theorem dX5_when_37 : decode cX5_when 37 = .ok (.iconst 0, 1) := by decide +kernel
theorem dX5_when_38 : decode cX5_when 38 = .ok (.istore_n 3, 1) := by decide +kernel
theorem dX5_when_39 : decode cX5_when 39 = .ok (.iload_n 3, 1) := by decide +kernel
theorem dX5_when_40 : decode cX5_when 40 = .ok (.sipush 200, 3) := by decide +kernel
theorem dX5_when_43 : decode cX5_when 43 = .ok (.if_icmp .gt 23, 3) := by decide +kernel
theorem dX5_when_46 : decode cX5_when 46 = .ok (.aload_n 0, 1) := by decide +kernel
theorem dX5_when_47 : decode cX5_when 47 = .ok (.iload_n 1, 1) := by decide +kernel
theorem dX5_when_48 : decode cX5_when 48 = .ok (.invokevirtual 72, 3) := by decide +kernel
theorem dX5_when_51 : decode cX5_when 51 = .ok (.iload_n 2, 1) := by decide +kernel
theorem dX5_when_52 : decode cX5_when 52 = .ok (.if_icmp .eq 14, 3) := by decide +kernel
theorem dX5_when_55 : decode cX5_when 55 = .ok (.aload_n 0, 1) := by decide +kernel
theorem dX5_when_56 : decode cX5_when 56 = .ok (.iconst 0, 1) := by decide +kernel
theorem dX5_when_57 : decode cX5_when 57 = .ok (.invokevirtual 131, 3) := by decide +kernel
theorem dX5_when_60 : decode cX5_when 60 = .ok (.iinc 3 1, 3) := by decide +kernel
theorem dX5_when_63 : decode cX5_when 63 = .ok (.goto (-24), 3) := by decide +kernel
theorem dX5_when_66 : decode cX5_when 66 = .ok (.aload_n 0, 1) := by decide +kernel
theorem dX5_when_67 : decode cX5_when 67 = .ok (.getfield 19, 3) := by decide +kernel
theorem dX5_when_70 : decode cX5_when 70 = .ok (.aload_n 0, 1) := by decide +kernel
theorem dX5_when_71 : decode cX5_when 71 = .ok (.getfield 7, 3) := by decide +kernel
theorem dX5_when_74 : decode cX5_when 74 = .ok (.invokestatic 160, 3) := by decide +kernel
theorem dX5_when_77 : decode cX5_when 77 = .ok (.iload_n 3, 1) := by decide +kernel
theorem dX5_when_78 : decode cX5_when 78 = .ok (.sipush 200, 3) := by decide +kernel
theorem dX5_when_81 : decode cX5_when 81 = .ok (.if_icmp .gt 7, 3) := by decide +kernel
theorem dX5_when_84 : decode cX5_when 84 = .ok (.iload_n 3, 1) := by decide +kernel
theorem dX5_when_85 : decode cX5_when 85 = .ok (.goto 9, 3) := by decide +kernel
theorem dX5_when_88 : decode cX5_when 88 = .ok (.aload_n 0, 1) := by decide +kernel
theorem dX5_when_89 : decode cX5_when 89 = .ok (.ldc 45, 2) := by decide +kernel
theorem dX5_when_91 : decode cX5_when 91 = .ok (.invokevirtual 46, 3) := by decide +kernel
theorem dX5_when_94 : decode cX5_when 94 = .ok (.ireturn, 1) := by decide +kernel
theorem dX5_leavesAll_0 : decode cX5_leavesAll 0 = .ok (.iconst 0, 1) := by decide +kernel
theorem dX5_leavesAll_1 : decode cX5_leavesAll 1 = .ok (.istore_n 1, 1) := by decide +kernel
theorem dX5_leavesAll_2 : decode cX5_leavesAll 2 = .ok (.iload_n 1, 1) := by decide +kernel
theorem dX5_leavesAll_3 : decode cX5_leavesAll 3 = .ok (.bipush 48, 2) := by decide +kernel
theorem dX5_leavesAll_5 : decode cX5_leavesAll 5 = .ok (.if_icmp .ge 23, 3) := by decide +kernel
theorem dX5_leavesAll_8 : decode cX5_leavesAll 8 = .ok (.aload_n 0, 1) := by decide +kernel
theorem dX5_leavesAll_9 : decode cX5_leavesAll 9 = .ok (.getfield 37, 3) := by decide +kernel
theorem dX5_leavesAll_12 : decode cX5_leavesAll 12 = .ok (.iload_n 1, 1) := by decide +kernel
theorem dX5_leavesAll_13 : decode cX5_leavesAll 13 = .ok (.aload_n 0, 1) := by decide +kernel
theorem dX5_leavesAll_14 : decode cX5_leavesAll 14 = .ok (.getfield 7, 3) := by decide +kernel
theorem dX5_leavesAll_17 : decode cX5_leavesAll 17 = .ok (.iconst 3, 1) := by decide +kernel
theorem dX5_leavesAll_18 : decode cX5_leavesAll 18 = .ok (.iload_n 1, 1) := by decide +kernel
theorem dX5_leavesAll_19 : decode cX5_leavesAll 19 = .ok (.iadd, 1) := by decide +kernel
theorem dX5_leavesAll_20 : decode cX5_leavesAll 20 = .ok (.iaload, 1) := by decide +kernel
theorem dX5_leavesAll_21 : decode cX5_leavesAll 21 = .ok (.iastore, 1) := by decide +kernel
theorem dX5_leavesAll_22 : decode cX5_leavesAll 22 = .ok (.iinc 1 1, 3) := by decide +kernel
theorem dX5_leavesAll_25 : decode cX5_leavesAll 25 = .ok (.goto (-23), 3) := by decide +kernel
theorem dX5_leavesAll_28 : decode cX5_leavesAll 28 = .ok (.aload_n 0, 1) := by decide +kernel
theorem dX5_leavesAll_29 : decode cX5_leavesAll 29 = .ok (.iconst 0, 1) := by decide +kernel
theorem dX5_leavesAll_30 : decode cX5_leavesAll 30 = .ok (.invokevirtual 131, 3) := by decide +kernel
theorem dX5_leavesAll_33 : decode cX5_leavesAll 33 = .ok (.iconst 1, 1) := by decide +kernel
theorem dX5_leavesAll_34 : decode cX5_leavesAll 34 = .ok (.istore_n 1, 1) := by decide +kernel
theorem dX5_leavesAll_35 : decode cX5_leavesAll 35 = .ok (.iconst 0, 1) := by decide +kernel
theorem dX5_leavesAll_36 : decode cX5_leavesAll 36 = .ok (.istore_n 2, 1) := by decide +kernel
theorem dX5_leavesAll_37 : decode cX5_leavesAll 37 = .ok (.iload_n 2, 1) := by decide +kernel
theorem dX5_leavesAll_38 : decode cX5_leavesAll 38 = .ok (.bipush 48, 2) := by decide +kernel
theorem dX5_leavesAll_40 : decode cX5_leavesAll 40 = .ok (.if_icmp .ge 34, 3) := by decide +kernel
theorem dX5_leavesAll_43 : decode cX5_leavesAll 43 = .ok (.iload_n 1, 1) := by decide +kernel
theorem dX5_leavesAll_44 : decode cX5_leavesAll 44 = .ok (.aload_n 0, 1) := by decide +kernel
theorem dX5_leavesAll_45 : decode cX5_leavesAll 45 = .ok (.getfield 37, 3) := by decide +kernel
theorem dX5_leavesAll_48 : decode cX5_leavesAll 48 = .ok (.iload_n 2, 1) := by decide +kernel
theorem dX5_leavesAll_49 : decode cX5_leavesAll 49 = .ok (.iaload, 1) := by decide +kernel
theorem dX5_leavesAll_50 : decode cX5_leavesAll 50 = .ok (.aload_n 0, 1) := by decide +kernel
theorem dX5_leavesAll_51 : decode cX5_leavesAll 51 = .ok (.getfield 7, 3) := by decide +kernel
theorem dX5_leavesAll_54 : decode cX5_leavesAll 54 = .ok (.iconst 3, 1) := by decide +kernel
theorem dX5_leavesAll_55 : decode cX5_leavesAll 55 = .ok (.iload_n 2, 1) := by decide +kernel
theorem dX5_leavesAll_56 : decode cX5_leavesAll 56 = .ok (.iadd, 1) := by decide +kernel
theorem dX5_leavesAll_57 : decode cX5_leavesAll 57 = .ok (.iaload, 1) := by decide +kernel
theorem dX5_leavesAll_58 : decode cX5_leavesAll 58 = .ok (.if_icmp .ne 7, 3) := by decide +kernel
theorem dX5_leavesAll_61 : decode cX5_leavesAll 61 = .ok (.iconst 1, 1) := by decide +kernel
theorem dX5_leavesAll_62 : decode cX5_leavesAll 62 = .ok (.goto 4, 3) := by decide +kernel
theorem dX5_leavesAll_65 : decode cX5_leavesAll 65 = .ok (.iconst 0, 1) := by decide +kernel
theorem dX5_leavesAll_66 : decode cX5_leavesAll 66 = .ok (.iand, 1) := by decide +kernel
theorem dX5_leavesAll_67 : decode cX5_leavesAll 67 = .ok (.istore_n 1, 1) := by decide +kernel
theorem dX5_leavesAll_68 : decode cX5_leavesAll 68 = .ok (.iinc 2 1, 3) := by decide +kernel
theorem dX5_leavesAll_71 : decode cX5_leavesAll 71 = .ok (.goto (-34), 3) := by decide +kernel
theorem dX5_leavesAll_74 : decode cX5_leavesAll 74 = .ok (.iload_n 1, 1) := by decide +kernel
theorem dX5_leavesAll_75 : decode cX5_leavesAll 75 = .ok (.ireturn, 1) := by decide +kernel
theorem dX5_settles_0 : decode cX5_settles 0 = .ok (.aload_n 0, 1) := by decide +kernel
theorem dX5_settles_1 : decode cX5_settles 1 = .ok (.getfield 7, 3) := by decide +kernel
theorem dX5_settles_4 : decode cX5_settles 4 = .ok (.aload_n 0, 1) := by decide +kernel
theorem dX5_settles_5 : decode cX5_settles 5 = .ok (.getfield 19, 3) := by decide +kernel
theorem dX5_settles_8 : decode cX5_settles 8 = .ok (.invokestatic 160, 3) := by decide +kernel
theorem dX5_settles_11 : decode cX5_settles 11 = .ok (.iconst 0, 1) := by decide +kernel
theorem dX5_settles_12 : decode cX5_settles 12 = .ok (.istore_n 1, 1) := by decide +kernel
theorem dX5_settles_13 : decode cX5_settles 13 = .ok (.iload_n 1, 1) := by decide +kernel
theorem dX5_settles_14 : decode cX5_settles 14 = .ok (.sipush 200, 3) := by decide +kernel
theorem dX5_settles_17 : decode cX5_settles 17 = .ok (.if_icmp .gt 16, 3) := by decide +kernel
theorem dX5_settles_20 : decode cX5_settles 20 = .ok (.aload_n 0, 1) := by decide +kernel
theorem dX5_settles_21 : decode cX5_settles 21 = .ok (.invokevirtual 169, 3) := by decide +kernel
theorem dX5_settles_24 : decode cX5_settles 24 = .ok (.ifCond .ne 9, 3) := by decide +kernel
theorem dX5_settles_27 : decode cX5_settles 27 = .ok (.iinc 1 1, 3) := by decide +kernel
theorem dX5_settles_30 : decode cX5_settles 30 = .ok (.goto (-17), 3) := by decide +kernel
theorem dX5_settles_33 : decode cX5_settles 33 = .ok (.aload_n 0, 1) := by decide +kernel
theorem dX5_settles_34 : decode cX5_settles 34 = .ok (.getfield 19, 3) := by decide +kernel
theorem dX5_settles_37 : decode cX5_settles 37 = .ok (.aload_n 0, 1) := by decide +kernel
theorem dX5_settles_38 : decode cX5_settles 38 = .ok (.getfield 7, 3) := by decide +kernel
theorem dX5_settles_41 : decode cX5_settles 41 = .ok (.invokestatic 160, 3) := by decide +kernel
theorem dX5_settles_44 : decode cX5_settles 44 = .ok (.iload_n 1, 1) := by decide +kernel
theorem dX5_settles_45 : decode cX5_settles 45 = .ok (.sipush 200, 3) := by decide +kernel
theorem dX5_settles_48 : decode cX5_settles 48 = .ok (.if_icmp .gt 7, 3) := by decide +kernel
theorem dX5_settles_51 : decode cX5_settles 51 = .ok (.iload_n 1, 1) := by decide +kernel
theorem dX5_settles_52 : decode cX5_settles 52 = .ok (.goto 9, 3) := by decide +kernel
theorem dX5_settles_55 : decode cX5_settles 55 = .ok (.aload_n 0, 1) := by decide +kernel
theorem dX5_settles_56 : decode cX5_settles 56 = .ok (.ldc 45, 2) := by decide +kernel
theorem dX5_settles_58 : decode cX5_settles 58 = .ok (.invokevirtual 46, 3) := by decide +kernel
theorem dX5_settles_61 : decode cX5_settles 61 = .ok (.ireturn, 1) := by decide +kernel
theorem dX5_areAlike_0 : decode cX5_areAlike 0 = .ok (.iconst 1, 1) := by decide +kernel
theorem dX5_areAlike_1 : decode cX5_areAlike 1 = .ok (.istore_n 3, 1) := by decide +kernel
theorem dX5_areAlike_2 : decode cX5_areAlike 2 = .ok (.iconst 0, 1) := by decide +kernel
theorem dX5_areAlike_3 : decode cX5_areAlike 3 = .ok (.istore 4, 2) := by decide +kernel
theorem dX5_areAlike_5 : decode cX5_areAlike 5 = .ok (.iload 4, 2) := by decide +kernel
theorem dX5_areAlike_7 : decode cX5_areAlike 7 = .ok (.bipush 8, 2) := by decide +kernel
theorem dX5_areAlike_9 : decode cX5_areAlike 9 = .ok (.if_icmp .ge 34, 3) := by decide +kernel
theorem dX5_areAlike_12 : decode cX5_areAlike 12 = .ok (.iload_n 3, 1) := by decide +kernel
theorem dX5_areAlike_13 : decode cX5_areAlike 13 = .ok (.aload_n 0, 1) := by decide +kernel
theorem dX5_areAlike_14 : decode cX5_areAlike 14 = .ok (.iload_n 1, 1) := by decide +kernel
theorem dX5_areAlike_15 : decode cX5_areAlike 15 = .ok (.iload 4, 2) := by decide +kernel
theorem dX5_areAlike_17 : decode cX5_areAlike 17 = .ok (.invokevirtual 64, 3) := by decide +kernel
theorem dX5_areAlike_20 : decode cX5_areAlike 20 = .ok (.aload_n 0, 1) := by decide +kernel
theorem dX5_areAlike_21 : decode cX5_areAlike 21 = .ok (.iload_n 2, 1) := by decide +kernel
theorem dX5_areAlike_22 : decode cX5_areAlike 22 = .ok (.iload 4, 2) := by decide +kernel
theorem dX5_areAlike_24 : decode cX5_areAlike 24 = .ok (.invokevirtual 64, 3) := by decide +kernel
theorem dX5_areAlike_27 : decode cX5_areAlike 27 = .ok (.if_icmp .ne 7, 3) := by decide +kernel
theorem dX5_areAlike_30 : decode cX5_areAlike 30 = .ok (.iconst 1, 1) := by decide +kernel
theorem dX5_areAlike_31 : decode cX5_areAlike 31 = .ok (.goto 4, 3) := by decide +kernel
theorem dX5_areAlike_34 : decode cX5_areAlike 34 = .ok (.iconst 0, 1) := by decide +kernel
theorem dX5_areAlike_35 : decode cX5_areAlike 35 = .ok (.iand, 1) := by decide +kernel
theorem dX5_areAlike_36 : decode cX5_areAlike 36 = .ok (.istore_n 3, 1) := by decide +kernel
theorem dX5_areAlike_37 : decode cX5_areAlike 37 = .ok (.iinc 4 1, 3) := by decide +kernel
theorem dX5_areAlike_40 : decode cX5_areAlike 40 = .ok (.goto (-35), 3) := by decide +kernel
theorem dX5_areAlike_43 : decode cX5_areAlike 43 = .ok (.iload_n 3, 1) := by decide +kernel
theorem dX5_areAlike_44 : decode cX5_areAlike 44 = .ok (.ireturn, 1) := by decide +kernel
theorem dX5_alike_0 : decode cX5_alike 0 = .ok (.iload_n 1, 1) := by decide +kernel
theorem dX5_alike_1 : decode cX5_alike 1 = .ok (.invokestatic 41, 3) := by decide +kernel
theorem dX5_alike_4 : decode cX5_alike 4 = .ok (.ifCond .eq 15, 3) := by decide +kernel
theorem dX5_alike_7 : decode cX5_alike 7 = .ok (.iload_n 2, 1) := by decide +kernel
theorem dX5_alike_8 : decode cX5_alike 8 = .ok (.invokestatic 41, 3) := by decide +kernel
theorem dX5_alike_11 : decode cX5_alike 11 = .ok (.ifCond .eq 8, 3) := by decide +kernel
theorem dX5_alike_14 : decode cX5_alike 14 = .ok (.iload_n 1, 1) := by decide +kernel
theorem dX5_alike_15 : decode cX5_alike 15 = .ok (.iload_n 2, 1) := by decide +kernel
theorem dX5_alike_16 : decode cX5_alike 16 = .ok (.if_icmp .ne 10, 3) := by decide +kernel
theorem dX5_alike_19 : decode cX5_alike 19 = .ok (.aload_n 0, 1) := by decide +kernel
theorem dX5_alike_20 : decode cX5_alike 20 = .ok (.ldc 40, 2) := by decide +kernel
theorem dX5_alike_22 : decode cX5_alike 22 = .ok (.invokevirtual 46, 3) := by decide +kernel
theorem dX5_alike_25 : decode cX5_alike 25 = .ok (.ireturn, 1) := by decide +kernel
theorem dX5_alike_26 : decode cX5_alike 26 = .ok (.aload_n 0, 1) := by decide +kernel
theorem dX5_alike_27 : decode cX5_alike 27 = .ok (.getfield 7, 3) := by decide +kernel
theorem dX5_alike_30 : decode cX5_alike 30 = .ok (.aload_n 0, 1) := by decide +kernel
theorem dX5_alike_31 : decode cX5_alike 31 = .ok (.getfield 19, 3) := by decide +kernel
theorem dX5_alike_34 : decode cX5_alike 34 = .ok (.invokestatic 160, 3) := by decide +kernel
theorem dX5_alike_37 : decode cX5_alike 37 = .ok (.iconst 0, 1) := by decide +kernel
theorem dX5_alike_38 : decode cX5_alike 38 = .ok (.istore_n 3, 1) := by decide +kernel
theorem dX5_alike_39 : decode cX5_alike 39 = .ok (.iload_n 3, 1) := by decide +kernel
theorem dX5_alike_40 : decode cX5_alike 40 = .ok (.sipush 200, 3) := by decide +kernel
theorem dX5_alike_43 : decode cX5_alike 43 = .ok (.if_icmp .gt 23, 3) := by decide +kernel
theorem dX5_alike_46 : decode cX5_alike 46 = .ok (.aload_n 0, 1) := by decide +kernel
theorem dX5_alike_47 : decode cX5_alike 47 = .ok (.iload_n 1, 1) := by decide +kernel
theorem dX5_alike_48 : decode cX5_alike 48 = .ok (.iload_n 2, 1) := by decide +kernel
theorem dX5_alike_49 : decode cX5_alike 49 = .ok (.invokevirtual 173, 3) := by decide +kernel
theorem dX5_alike_52 : decode cX5_alike 52 = .ok (.ifCond .ne 14, 3) := by decide +kernel
theorem dX5_alike_55 : decode cX5_alike 55 = .ok (.aload_n 0, 1) := by decide +kernel
theorem dX5_alike_56 : decode cX5_alike 56 = .ok (.iconst 0, 1) := by decide +kernel
theorem dX5_alike_57 : decode cX5_alike 57 = .ok (.invokevirtual 131, 3) := by decide +kernel
theorem dX5_alike_60 : decode cX5_alike 60 = .ok (.iinc 3 1, 3) := by decide +kernel
theorem dX5_alike_63 : decode cX5_alike 63 = .ok (.goto (-24), 3) := by decide +kernel
theorem dX5_alike_66 : decode cX5_alike 66 = .ok (.aload_n 0, 1) := by decide +kernel
theorem dX5_alike_67 : decode cX5_alike 67 = .ok (.getfield 19, 3) := by decide +kernel
theorem dX5_alike_70 : decode cX5_alike 70 = .ok (.aload_n 0, 1) := by decide +kernel
theorem dX5_alike_71 : decode cX5_alike 71 = .ok (.getfield 7, 3) := by decide +kernel
theorem dX5_alike_74 : decode cX5_alike 74 = .ok (.invokestatic 160, 3) := by decide +kernel
theorem dX5_alike_77 : decode cX5_alike 77 = .ok (.iload_n 3, 1) := by decide +kernel
theorem dX5_alike_78 : decode cX5_alike 78 = .ok (.sipush 200, 3) := by decide +kernel
theorem dX5_alike_81 : decode cX5_alike 81 = .ok (.if_icmp .gt 7, 3) := by decide +kernel
theorem dX5_alike_84 : decode cX5_alike 84 = .ok (.iload_n 3, 1) := by decide +kernel
theorem dX5_alike_85 : decode cX5_alike 85 = .ok (.goto 9, 3) := by decide +kernel
theorem dX5_alike_88 : decode cX5_alike 88 = .ok (.aload_n 0, 1) := by decide +kernel
theorem dX5_alike_89 : decode cX5_alike 89 = .ok (.ldc 45, 2) := by decide +kernel
theorem dX5_alike_91 : decode cX5_alike 91 = .ok (.invokevirtual 46, 3) := by decide +kernel
theorem dX5_alike_94 : decode cX5_alike 94 = .ok (.ireturn, 1) := by decide +kernel
theorem dX5_isAsked_0 : decode cX5_isAsked 0 = .ok (.aload_n 0, 1) := by decide +kernel
theorem dX5_isAsked_1 : decode cX5_isAsked 1 = .ok (.iload_n 1, 1) := by decide +kernel
theorem dX5_isAsked_2 : decode cX5_isAsked 2 = .ok (.invokevirtual 112, 3) := by decide +kernel
theorem dX5_isAsked_5 : decode cX5_isAsked 5 = .ok (.ifCond .eq 26, 3) := by decide +kernel
theorem dX5_isAsked_8 : decode cX5_isAsked 8 = .ok (.iload_n 2, 1) := by decide +kernel
theorem dX5_isAsked_9 : decode cX5_isAsked 9 = .ok (.invokestatic 41, 3) := by decide +kernel
theorem dX5_isAsked_12 : decode cX5_isAsked 12 = .ok (.ifCond .eq 19, 3) := by decide +kernel
theorem dX5_isAsked_15 : decode cX5_isAsked 15 = .ok (.iload_n 3, 1) := by decide +kernel
theorem dX5_isAsked_16 : decode cX5_isAsked 16 = .ok (.i2l, 1) := by decide +kernel
theorem dX5_isAsked_17 : decode cX5_isAsked 17 = .ok (.lconst 0, 1) := by decide +kernel
theorem dX5_isAsked_18 : decode cX5_isAsked 18 = .ok (.ldc2_w 176, 3) := by decide +kernel
theorem dX5_isAsked_21 : decode cX5_isAsked 21 = .ok (.invokestatic 56, 3) := by decide +kernel
theorem dX5_isAsked_24 : decode cX5_isAsked 24 = .ok (.ifCond .eq 7, 3) := by decide +kernel
theorem dX5_isAsked_27 : decode cX5_isAsked 27 = .ok (.iconst 1, 1) := by decide +kernel
theorem dX5_isAsked_28 : decode cX5_isAsked 28 = .ok (.goto 4, 3) := by decide +kernel
theorem dX5_isAsked_31 : decode cX5_isAsked 31 = .ok (.iconst 0, 1) := by decide +kernel
theorem dX5_isAsked_32 : decode cX5_isAsked 32 = .ok (.ireturn, 1) := by decide +kernel
theorem dX5_mostBy_0 : decode cX5_mostBy 0 = .ok (.aload_n 0, 1) := by decide +kernel
theorem dX5_mostBy_1 : decode cX5_mostBy 1 = .ok (.iload_n 1, 1) := by decide +kernel
theorem dX5_mostBy_2 : decode cX5_mostBy 2 = .ok (.iload_n 2, 1) := by decide +kernel
theorem dX5_mostBy_3 : decode cX5_mostBy 3 = .ok (.invokevirtual 67, 3) := by decide +kernel
theorem dX5_mostBy_6 : decode cX5_mostBy 6 = .ok (.istore 7, 2) := by decide +kernel
theorem dX5_mostBy_8 : decode cX5_mostBy 8 = .ok (.iload_n 3, 1) := by decide +kernel
theorem dX5_mostBy_9 : decode cX5_mostBy 9 = .ok (.istore 8, 2) := by decide +kernel
theorem dX5_mostBy_11 : decode cX5_mostBy 11 = .ok (.iconst (-1), 1) := by decide +kernel
theorem dX5_mostBy_12 : decode cX5_mostBy 12 = .ok (.istore 9, 2) := by decide +kernel
theorem dX5_mostBy_14 : decode cX5_mostBy 14 = .ok (.iload_n 3, 1) := by decide +kernel
theorem dX5_mostBy_15 : decode cX5_mostBy 15 = .ok (.istore 10, 2) := by decide +kernel
theorem dX5_mostBy_17 : decode cX5_mostBy 17 = .ok (.iload 10, 2) := by decide +kernel
theorem dX5_mostBy_19 : decode cX5_mostBy 19 = .ok (.iload 4, 2) := by decide +kernel
theorem dX5_mostBy_21 : decode cX5_mostBy 21 = .ok (.if_icmp .gt 63, 3) := by decide +kernel
theorem dX5_mostBy_24 : decode cX5_mostBy 24 = .ok (.aload_n 0, 1) := by decide +kernel
theorem dX5_mostBy_25 : decode cX5_mostBy 25 = .ok (.getfield 7, 3) := by decide +kernel
theorem dX5_mostBy_28 : decode cX5_mostBy 28 = .ok (.iload_n 1, 1) := by decide +kernel
theorem dX5_mostBy_29 : decode cX5_mostBy 29 = .ok (.iload_n 2, 1) := by decide +kernel
theorem dX5_mostBy_30 : decode cX5_mostBy 30 = .ok (.invokestatic 84, 3) := by decide +kernel
theorem dX5_mostBy_33 : decode cX5_mostBy 33 = .ok (.iload 10, 2) := by decide +kernel
theorem dX5_mostBy_35 : decode cX5_mostBy 35 = .ok (.iastore, 1) := by decide +kernel
theorem dX5_mostBy_36 : decode cX5_mostBy 36 = .ok (.aload_n 0, 1) := by decide +kernel
theorem dX5_mostBy_37 : decode cX5_mostBy 37 = .ok (.iload 5, 2) := by decide +kernel
theorem dX5_mostBy_39 : decode cX5_mostBy 39 = .ok (.iload 6, 2) := by decide +kernel
theorem dX5_mostBy_41 : decode cX5_mostBy 41 = .ok (.invokevirtual 164, 3) := by decide +kernel
theorem dX5_mostBy_44 : decode cX5_mostBy 44 = .ok (.istore 11, 2) := by decide +kernel
theorem dX5_mostBy_46 : decode cX5_mostBy 46 = .ok (.iload 11, 2) := by decide +kernel
theorem dX5_mostBy_48 : decode cX5_mostBy 48 = .ok (.iload 9, 2) := by decide +kernel
theorem dX5_mostBy_50 : decode cX5_mostBy 50 = .ok (.if_icmp .le 8, 3) := by decide +kernel
theorem dX5_mostBy_53 : decode cX5_mostBy 53 = .ok (.iload 10, 2) := by decide +kernel
theorem dX5_mostBy_55 : decode cX5_mostBy 55 = .ok (.goto 5, 3) := by decide +kernel
theorem dX5_mostBy_58 : decode cX5_mostBy 58 = .ok (.iload 8, 2) := by decide +kernel
theorem dX5_mostBy_60 : decode cX5_mostBy 60 = .ok (.istore 8, 2) := by decide +kernel
theorem dX5_mostBy_62 : decode cX5_mostBy 62 = .ok (.iload 11, 2) := by decide +kernel
theorem dX5_mostBy_64 : decode cX5_mostBy 64 = .ok (.iload 9, 2) := by decide +kernel
theorem dX5_mostBy_66 : decode cX5_mostBy 66 = .ok (.if_icmp .le 8, 3) := by decide +kernel
theorem dX5_mostBy_69 : decode cX5_mostBy 69 = .ok (.iload 11, 2) := by decide +kernel
theorem dX5_mostBy_71 : decode cX5_mostBy 71 = .ok (.goto 5, 3) := by decide +kernel
theorem dX5_mostBy_74 : decode cX5_mostBy 74 = .ok (.iload 9, 2) := by decide +kernel
theorem dX5_mostBy_76 : decode cX5_mostBy 76 = .ok (.istore 9, 2) := by decide +kernel
theorem dX5_mostBy_78 : decode cX5_mostBy 78 = .ok (.iinc 10 1, 3) := by decide +kernel
theorem dX5_mostBy_81 : decode cX5_mostBy 81 = .ok (.goto (-64), 3) := by decide +kernel
theorem dX5_mostBy_84 : decode cX5_mostBy 84 = .ok (.aload_n 0, 1) := by decide +kernel
theorem dX5_mostBy_85 : decode cX5_mostBy 85 = .ok (.getfield 7, 3) := by decide +kernel
theorem dX5_mostBy_88 : decode cX5_mostBy 88 = .ok (.iload_n 1, 1) := by decide +kernel
theorem dX5_mostBy_89 : decode cX5_mostBy 89 = .ok (.iload_n 2, 1) := by decide +kernel
theorem dX5_mostBy_90 : decode cX5_mostBy 90 = .ok (.invokestatic 84, 3) := by decide +kernel
theorem dX5_mostBy_93 : decode cX5_mostBy 93 = .ok (.iload 7, 2) := by decide +kernel
theorem dX5_mostBy_95 : decode cX5_mostBy 95 = .ok (.iastore, 1) := by decide +kernel
theorem dX5_mostBy_96 : decode cX5_mostBy 96 = .ok (.iload 8, 2) := by decide +kernel
theorem dX5_mostBy_98 : decode cX5_mostBy 98 = .ok (.ireturn, 1) := by decide +kernel
theorem dX5_put_0 : decode cX5_put 0 = .ok (.aload_n 0, 1) := by decide +kernel
theorem dX5_put_1 : decode cX5_put 1 = .ok (.iload_n 1, 1) := by decide +kernel
theorem dX5_put_2 : decode cX5_put 2 = .ok (.iload_n 2, 1) := by decide +kernel
theorem dX5_put_3 : decode cX5_put 3 = .ok (.iload_n 3, 1) := by decide +kernel
theorem dX5_put_4 : decode cX5_put 4 = .ok (.invokevirtual 178, 3) := by decide +kernel
theorem dX5_put_7 : decode cX5_put 7 = .ok (.ifCond .eq 16, 3) := by decide +kernel
theorem dX5_put_10 : decode cX5_put 10 = .ok (.aload_n 0, 1) := by decide +kernel
theorem dX5_put_11 : decode cX5_put 11 = .ok (.iload_n 1, 1) := by decide +kernel
theorem dX5_put_12 : decode cX5_put 12 = .ok (.iconst 1, 1) := by decide +kernel
theorem dX5_put_13 : decode cX5_put 13 = .ok (.iconst 0, 1) := by decide +kernel
theorem dX5_put_14 : decode cX5_put 14 = .ok (.iconst 5, 1) := by decide +kernel
theorem dX5_put_15 : decode cX5_put 15 = .ok (.iload_n 2, 1) := by decide +kernel
theorem dX5_put_16 : decode cX5_put 16 = .ok (.iload_n 3, 1) := by decide +kernel
theorem dX5_put_17 : decode cX5_put 17 = .ok (.invokevirtual 182, 3) := by decide +kernel
theorem dX5_put_20 : decode cX5_put 20 = .ok (.goto 9, 3) := by decide +kernel
theorem dX5_put_23 : decode cX5_put 23 = .ok (.aload_n 0, 1) := by decide +kernel
theorem dX5_put_24 : decode cX5_put 24 = .ok (.ldc 40, 2) := by decide +kernel
theorem dX5_put_26 : decode cX5_put 26 = .ok (.invokevirtual 46, 3) := by decide +kernel
theorem dX5_put_29 : decode cX5_put 29 = .ok (.ireturn, 1) := by decide +kernel
theorem dX5_tasteFor_0 : decode cX5_tasteFor 0 = .ok (.aload_n 0, 1) := by decide +kernel
theorem dX5_tasteFor_1 : decode cX5_tasteFor 1 = .ok (.iload_n 1, 1) := by decide +kernel
theorem dX5_tasteFor_2 : decode cX5_tasteFor 2 = .ok (.iload_n 2, 1) := by decide +kernel
theorem dX5_tasteFor_3 : decode cX5_tasteFor 3 = .ok (.iload_n 3, 1) := by decide +kernel
theorem dX5_tasteFor_4 : decode cX5_tasteFor 4 = .ok (.invokevirtual 178, 3) := by decide +kernel
theorem dX5_tasteFor_7 : decode cX5_tasteFor 7 = .ok (.ifCond .eq 17, 3) := by decide +kernel
theorem dX5_tasteFor_10 : decode cX5_tasteFor 10 = .ok (.aload_n 0, 1) := by decide +kernel
theorem dX5_tasteFor_11 : decode cX5_tasteFor 11 = .ok (.iload_n 1, 1) := by decide +kernel
theorem dX5_tasteFor_12 : decode cX5_tasteFor 12 = .ok (.iconst 2, 1) := by decide +kernel
theorem dX5_tasteFor_13 : decode cX5_tasteFor 13 = .ok (.iconst 1, 1) := by decide +kernel
theorem dX5_tasteFor_14 : decode cX5_tasteFor 14 = .ok (.bipush 9, 2) := by decide +kernel
theorem dX5_tasteFor_16 : decode cX5_tasteFor 16 = .ok (.iload_n 2, 1) := by decide +kernel
theorem dX5_tasteFor_17 : decode cX5_tasteFor 17 = .ok (.iload_n 3, 1) := by decide +kernel
theorem dX5_tasteFor_18 : decode cX5_tasteFor 18 = .ok (.invokevirtual 182, 3) := by decide +kernel
theorem dX5_tasteFor_21 : decode cX5_tasteFor 21 = .ok (.goto 9, 3) := by decide +kernel
theorem dX5_tasteFor_24 : decode cX5_tasteFor 24 = .ok (.aload_n 0, 1) := by decide +kernel
theorem dX5_tasteFor_25 : decode cX5_tasteFor 25 = .ok (.ldc 40, 2) := by decide +kernel
theorem dX5_tasteFor_27 : decode cX5_tasteFor 27 = .ok (.invokevirtual 46, 3) := by decide +kernel
theorem dX5_tasteFor_30 : decode cX5_tasteFor 30 = .ok (.ireturn, 1) := by decide +kernel
theorem dX5_kindFor_0 : decode cX5_kindFor 0 = .ok (.aload_n 0, 1) := by decide +kernel
theorem dX5_kindFor_1 : decode cX5_kindFor 1 = .ok (.iload_n 1, 1) := by decide +kernel
theorem dX5_kindFor_2 : decode cX5_kindFor 2 = .ok (.iload_n 2, 1) := by decide +kernel
theorem dX5_kindFor_3 : decode cX5_kindFor 3 = .ok (.iload_n 3, 1) := by decide +kernel
theorem dX5_kindFor_4 : decode cX5_kindFor 4 = .ok (.invokevirtual 178, 3) := by decide +kernel
theorem dX5_kindFor_7 : decode cX5_kindFor 7 = .ok (.ifCond .eq 17, 3) := by decide +kernel
theorem dX5_kindFor_10 : decode cX5_kindFor 10 = .ok (.aload_n 0, 1) := by decide +kernel
theorem dX5_kindFor_11 : decode cX5_kindFor 11 = .ok (.iload_n 1, 1) := by decide +kernel
theorem dX5_kindFor_12 : decode cX5_kindFor 12 = .ok (.iconst 0, 1) := by decide +kernel
theorem dX5_kindFor_13 : decode cX5_kindFor 13 = .ok (.iconst 0, 1) := by decide +kernel
theorem dX5_kindFor_14 : decode cX5_kindFor 14 = .ok (.bipush 6, 2) := by decide +kernel
theorem dX5_kindFor_16 : decode cX5_kindFor 16 = .ok (.iload_n 2, 1) := by decide +kernel
theorem dX5_kindFor_17 : decode cX5_kindFor 17 = .ok (.iload_n 3, 1) := by decide +kernel
theorem dX5_kindFor_18 : decode cX5_kindFor 18 = .ok (.invokevirtual 182, 3) := by decide +kernel
theorem dX5_kindFor_21 : decode cX5_kindFor 21 = .ok (.goto 9, 3) := by decide +kernel
theorem dX5_kindFor_24 : decode cX5_kindFor 24 = .ok (.aload_n 0, 1) := by decide +kernel
theorem dX5_kindFor_25 : decode cX5_kindFor 25 = .ok (.ldc 40, 2) := by decide +kernel
theorem dX5_kindFor_27 : decode cX5_kindFor 27 = .ok (.invokevirtual 46, 3) := by decide +kernel
theorem dX5_kindFor_30 : decode cX5_kindFor 30 = .ok (.ireturn, 1) := by decide +kernel
theorem dX5_swaps_0 : decode cX5_swaps 0 = .ok (.aload_n 0, 1) := by decide +kernel
theorem dX5_swaps_1 : decode cX5_swaps 1 = .ok (.getfield 7, 3) := by decide +kernel
theorem dX5_swaps_4 : decode cX5_swaps 4 = .ok (.iload_n 1, 1) := by decide +kernel
theorem dX5_swaps_5 : decode cX5_swaps 5 = .ok (.iconst 1, 1) := by decide +kernel
theorem dX5_swaps_6 : decode cX5_swaps 6 = .ok (.invokestatic 84, 3) := by decide +kernel
theorem dX5_swaps_9 : decode cX5_swaps 9 = .ok (.aload_n 0, 1) := by decide +kernel
theorem dX5_swaps_10 : decode cX5_swaps 10 = .ok (.iload_n 2, 1) := by decide +kernel
theorem dX5_swaps_11 : decode cX5_swaps 11 = .ok (.iconst 1, 1) := by decide +kernel
theorem dX5_swaps_12 : decode cX5_swaps 12 = .ok (.invokestatic 84, 3) := by decide +kernel
theorem dX5_swaps_15 : decode cX5_swaps 15 = .ok (.aload_n 0, 1) := by decide +kernel
theorem dX5_swaps_16 : decode cX5_swaps 16 = .ok (.iload_n 1, 1) := by decide +kernel
theorem dX5_swaps_17 : decode cX5_swaps 17 = .ok (.iconst 1, 1) := by decide +kernel
theorem dX5_swaps_18 : decode cX5_swaps 18 = .ok (.invokevirtual 67, 3) := by decide +kernel
theorem dX5_swaps_21 : decode cX5_swaps 21 = .ok (.invokevirtual 60, 3) := by decide +kernel
theorem dX5_swaps_24 : decode cX5_swaps 24 = .ok (.iastore, 1) := by decide +kernel
theorem dX5_swaps_25 : decode cX5_swaps 25 = .ok (.return_, 1) := by decide +kernel
theorem dX5_swapFor_0 : decode cX5_swapFor 0 = .ok (.iload_n 1, 1) := by decide +kernel
theorem dX5_swapFor_1 : decode cX5_swapFor 1 = .ok (.invokestatic 41, 3) := by decide +kernel
theorem dX5_swapFor_4 : decode cX5_swapFor 4 = .ok (.ifCond .eq 15, 3) := by decide +kernel
theorem dX5_swapFor_7 : decode cX5_swapFor 7 = .ok (.iload_n 2, 1) := by decide +kernel
theorem dX5_swapFor_8 : decode cX5_swapFor 8 = .ok (.i2l, 1) := by decide +kernel
theorem dX5_swapFor_9 : decode cX5_swapFor 9 = .ok (.lconst 0, 1) := by decide +kernel
theorem dX5_swapFor_10 : decode cX5_swapFor 10 = .ok (.ldc2_w 176, 3) := by decide +kernel
theorem dX5_swapFor_13 : decode cX5_swapFor 13 = .ok (.invokestatic 56, 3) := by decide +kernel
theorem dX5_swapFor_16 : decode cX5_swapFor 16 = .ok (.ifCond .ne 10, 3) := by decide +kernel
theorem dX5_swapFor_19 : decode cX5_swapFor 19 = .ok (.aload_n 0, 1) := by decide +kernel
theorem dX5_swapFor_20 : decode cX5_swapFor 20 = .ok (.ldc 40, 2) := by decide +kernel
theorem dX5_swapFor_22 : decode cX5_swapFor 22 = .ok (.invokevirtual 46, 3) := by decide +kernel
theorem dX5_swapFor_25 : decode cX5_swapFor 25 = .ok (.ireturn, 1) := by decide +kernel
theorem dX5_swapFor_26 : decode cX5_swapFor 26 = .ok (.iconst (-1), 1) := by decide +kernel
theorem dX5_swapFor_27 : decode cX5_swapFor 27 = .ok (.istore_n 3, 1) := by decide +kernel
theorem dX5_swapFor_28 : decode cX5_swapFor 28 = .ok (.iconst (-1), 1) := by decide +kernel
theorem dX5_swapFor_29 : decode cX5_swapFor 29 = .ok (.istore 4, 2) := by decide +kernel
theorem dX5_swapFor_31 : decode cX5_swapFor 31 = .ok (.iconst 0, 1) := by decide +kernel
theorem dX5_swapFor_32 : decode cX5_swapFor 32 = .ok (.istore 5, 2) := by decide +kernel
theorem dX5_swapFor_34 : decode cX5_swapFor 34 = .ok (.iload 5, 2) := by decide +kernel
theorem dX5_swapFor_36 : decode cX5_swapFor 36 = .ok (.aload_n 0, 1) := by decide +kernel
theorem dX5_swapFor_37 : decode cX5_swapFor 37 = .ok (.getfield 7, 3) := by decide +kernel
theorem dX5_swapFor_40 : decode cX5_swapFor 40 = .ok (.iconst 0, 1) := by decide +kernel
theorem dX5_swapFor_41 : decode cX5_swapFor 41 = .ok (.iaload, 1) := by decide +kernel
theorem dX5_swapFor_42 : decode cX5_swapFor 42 = .ok (.if_icmp .ge 92, 3) := by decide +kernel
theorem dX5_swapFor_45 : decode cX5_swapFor 45 = .ok (.iload 5, 2) := by decide +kernel
theorem dX5_swapFor_47 : decode cX5_swapFor 47 = .ok (.iconst 1, 1) := by decide +kernel
theorem dX5_swapFor_48 : decode cX5_swapFor 48 = .ok (.iadd, 1) := by decide +kernel
theorem dX5_swapFor_49 : decode cX5_swapFor 49 = .ok (.istore 6, 2) := by decide +kernel
theorem dX5_swapFor_51 : decode cX5_swapFor 51 = .ok (.iload 6, 2) := by decide +kernel
theorem dX5_swapFor_53 : decode cX5_swapFor 53 = .ok (.aload_n 0, 1) := by decide +kernel
theorem dX5_swapFor_54 : decode cX5_swapFor 54 = .ok (.getfield 7, 3) := by decide +kernel
theorem dX5_swapFor_57 : decode cX5_swapFor 57 = .ok (.iconst 0, 1) := by decide +kernel
theorem dX5_swapFor_58 : decode cX5_swapFor 58 = .ok (.iaload, 1) := by decide +kernel
theorem dX5_swapFor_59 : decode cX5_swapFor 59 = .ok (.if_icmp .ge 69, 3) := by decide +kernel
theorem dX5_swapFor_62 : decode cX5_swapFor 62 = .ok (.aload_n 0, 1) := by decide +kernel
theorem dX5_swapFor_63 : decode cX5_swapFor 63 = .ok (.iload 5, 2) := by decide +kernel
theorem dX5_swapFor_65 : decode cX5_swapFor 65 = .ok (.iload 6, 2) := by decide +kernel
theorem dX5_swapFor_67 : decode cX5_swapFor 67 = .ok (.invokevirtual 186, 3) := by decide +kernel
theorem dX5_swapFor_70 : decode cX5_swapFor 70 = .ok (.aload_n 0, 1) := by decide +kernel
theorem dX5_swapFor_71 : decode cX5_swapFor 71 = .ok (.iload_n 1, 1) := by decide +kernel
theorem dX5_swapFor_72 : decode cX5_swapFor 72 = .ok (.iload_n 2, 1) := by decide +kernel
theorem dX5_swapFor_73 : decode cX5_swapFor 73 = .ok (.invokevirtual 164, 3) := by decide +kernel
theorem dX5_swapFor_76 : decode cX5_swapFor 76 = .ok (.istore 7, 2) := by decide +kernel
theorem dX5_swapFor_78 : decode cX5_swapFor 78 = .ok (.aload_n 0, 1) := by decide +kernel
theorem dX5_swapFor_79 : decode cX5_swapFor 79 = .ok (.iload 5, 2) := by decide +kernel
theorem dX5_swapFor_81 : decode cX5_swapFor 81 = .ok (.iload 6, 2) := by decide +kernel
theorem dX5_swapFor_83 : decode cX5_swapFor 83 = .ok (.invokevirtual 186, 3) := by decide +kernel
theorem dX5_swapFor_86 : decode cX5_swapFor 86 = .ok (.iload 7, 2) := by decide +kernel
theorem dX5_swapFor_88 : decode cX5_swapFor 88 = .ok (.iload 4, 2) := by decide +kernel
theorem dX5_swapFor_90 : decode cX5_swapFor 90 = .ok (.if_icmp .le 14, 3) := by decide +kernel
theorem dX5_swapFor_93 : decode cX5_swapFor 93 = .ok (.bipush 8, 2) := by decide +kernel
theorem dX5_swapFor_95 : decode cX5_swapFor 95 = .ok (.iload 5, 2) := by decide +kernel
theorem dX5_swapFor_97 : decode cX5_swapFor 97 = .ok (.imul, 1) := by decide +kernel
theorem dX5_swapFor_98 : decode cX5_swapFor 98 = .ok (.iload 6, 2) := by decide +kernel
theorem dX5_swapFor_100 : decode cX5_swapFor 100 = .ok (.iadd, 1) := by decide +kernel
theorem dX5_swapFor_101 : decode cX5_swapFor 101 = .ok (.goto 4, 3) := by decide +kernel
theorem dX5_swapFor_104 : decode cX5_swapFor 104 = .ok (.iload_n 3, 1) := by decide +kernel
theorem dX5_swapFor_105 : decode cX5_swapFor 105 = .ok (.istore_n 3, 1) := by decide +kernel
theorem dX5_swapFor_106 : decode cX5_swapFor 106 = .ok (.iload 7, 2) := by decide +kernel
theorem dX5_swapFor_108 : decode cX5_swapFor 108 = .ok (.iload 4, 2) := by decide +kernel
theorem dX5_swapFor_110 : decode cX5_swapFor 110 = .ok (.if_icmp .le 8, 3) := by decide +kernel
theorem dX5_swapFor_113 : decode cX5_swapFor 113 = .ok (.iload 7, 2) := by decide +kernel
theorem dX5_swapFor_115 : decode cX5_swapFor 115 = .ok (.goto 5, 3) := by decide +kernel
theorem dX5_swapFor_118 : decode cX5_swapFor 118 = .ok (.iload 4, 2) := by decide +kernel
theorem dX5_swapFor_120 : decode cX5_swapFor 120 = .ok (.istore 4, 2) := by decide +kernel
theorem dX5_swapFor_122 : decode cX5_swapFor 122 = .ok (.iinc 6 1, 3) := by decide +kernel
theorem dX5_swapFor_125 : decode cX5_swapFor 125 = .ok (.goto (-74), 3) := by decide +kernel
theorem dX5_swapFor_128 : decode cX5_swapFor 128 = .ok (.iinc 5 1, 3) := by decide +kernel
theorem dX5_swapFor_131 : decode cX5_swapFor 131 = .ok (.goto (-97), 3) := by decide +kernel
theorem dX5_swapFor_134 : decode cX5_swapFor 134 = .ok (.aload_n 0, 1) := by decide +kernel
theorem dX5_swapFor_135 : decode cX5_swapFor 135 = .ok (.iload_n 3, 1) := by decide +kernel
theorem dX5_swapFor_136 : decode cX5_swapFor 136 = .ok (.invokevirtual 189, 3) := by decide +kernel
theorem dX5_swapFor_139 : decode cX5_swapFor 139 = .ok (.ireturn, 1) := by decide +kernel
theorem dX5_stays_0 : decode cX5_stays 0 = .ok (.aload_n 0, 1) := by decide +kernel
theorem dX5_stays_1 : decode cX5_stays 1 = .ok (.getfield 7, 3) := by decide +kernel
theorem dX5_stays_4 : decode cX5_stays 4 = .ok (.aload_n 0, 1) := by decide +kernel
theorem dX5_stays_5 : decode cX5_stays 5 = .ok (.getfield 19, 3) := by decide +kernel
theorem dX5_stays_8 : decode cX5_stays 8 = .ok (.invokestatic 160, 3) := by decide +kernel
theorem dX5_stays_11 : decode cX5_stays 11 = .ok (.iconst 0, 1) := by decide +kernel
theorem dX5_stays_12 : decode cX5_stays 12 = .ok (.istore 4, 2) := by decide +kernel
theorem dX5_stays_14 : decode cX5_stays 14 = .ok (.iload 4, 2) := by decide +kernel
theorem dX5_stays_16 : decode cX5_stays 16 = .ok (.iload_n 2, 1) := by decide +kernel
theorem dX5_stays_17 : decode cX5_stays 17 = .ok (.if_icmp .ge 14, 3) := by decide +kernel
theorem dX5_stays_20 : decode cX5_stays 20 = .ok (.aload_n 0, 1) := by decide +kernel
theorem dX5_stays_21 : decode cX5_stays 21 = .ok (.iload_n 3, 1) := by decide +kernel
theorem dX5_stays_22 : decode cX5_stays 22 = .ok (.invokevirtual 131, 3) := by decide +kernel
theorem dX5_stays_25 : decode cX5_stays 25 = .ok (.iinc 4 1, 3) := by decide +kernel
theorem dX5_stays_28 : decode cX5_stays 28 = .ok (.goto (-14), 3) := by decide +kernel
theorem dX5_stays_31 : decode cX5_stays 31 = .ok (.iconst 1, 1) := by decide +kernel
theorem dX5_stays_32 : decode cX5_stays 32 = .ok (.istore 4, 2) := by decide +kernel
theorem dX5_stays_34 : decode cX5_stays 34 = .ok (.iconst 0, 1) := by decide +kernel
theorem dX5_stays_35 : decode cX5_stays 35 = .ok (.istore 5, 2) := by decide +kernel
theorem dX5_stays_37 : decode cX5_stays 37 = .ok (.iload 5, 2) := by decide +kernel
theorem dX5_stays_39 : decode cX5_stays 39 = .ok (.bipush 8, 2) := by decide +kernel
theorem dX5_stays_41 : decode cX5_stays 41 = .ok (.if_icmp .ge 43, 3) := by decide +kernel
theorem dX5_stays_44 : decode cX5_stays 44 = .ok (.iload 4, 2) := by decide +kernel
theorem dX5_stays_46 : decode cX5_stays 46 = .ok (.aload_n 0, 1) := by decide +kernel
theorem dX5_stays_47 : decode cX5_stays 47 = .ok (.iload_n 1, 1) := by decide +kernel
theorem dX5_stays_48 : decode cX5_stays 48 = .ok (.iload 5, 2) := by decide +kernel
theorem dX5_stays_50 : decode cX5_stays 50 = .ok (.invokevirtual 64, 3) := by decide +kernel
theorem dX5_stays_53 : decode cX5_stays 53 = .ok (.aload_n 0, 1) := by decide +kernel
theorem dX5_stays_54 : decode cX5_stays 54 = .ok (.getfield 19, 3) := by decide +kernel
theorem dX5_stays_57 : decode cX5_stays 57 = .ok (.iconst 3, 1) := by decide +kernel
theorem dX5_stays_58 : decode cX5_stays 58 = .ok (.bipush 8, 2) := by decide +kernel
theorem dX5_stays_60 : decode cX5_stays 60 = .ok (.iload_n 1, 1) := by decide +kernel
theorem dX5_stays_61 : decode cX5_stays 61 = .ok (.imul, 1) := by decide +kernel
theorem dX5_stays_62 : decode cX5_stays 62 = .ok (.iadd, 1) := by decide +kernel
theorem dX5_stays_63 : decode cX5_stays 63 = .ok (.iload 5, 2) := by decide +kernel
theorem dX5_stays_65 : decode cX5_stays 65 = .ok (.iadd, 1) := by decide +kernel
theorem dX5_stays_66 : decode cX5_stays 66 = .ok (.iaload, 1) := by decide +kernel
theorem dX5_stays_67 : decode cX5_stays 67 = .ok (.if_icmp .ne 7, 3) := by decide +kernel
theorem dX5_stays_70 : decode cX5_stays 70 = .ok (.iconst 1, 1) := by decide +kernel
theorem dX5_stays_71 : decode cX5_stays 71 = .ok (.goto 4, 3) := by decide +kernel
theorem dX5_stays_74 : decode cX5_stays 74 = .ok (.iconst 0, 1) := by decide +kernel
theorem dX5_stays_75 : decode cX5_stays 75 = .ok (.iand, 1) := by decide +kernel
theorem dX5_stays_76 : decode cX5_stays 76 = .ok (.istore 4, 2) := by decide +kernel
theorem dX5_stays_78 : decode cX5_stays 78 = .ok (.iinc 5 1, 3) := by decide +kernel
theorem dX5_stays_81 : decode cX5_stays 81 = .ok (.goto (-44), 3) := by decide +kernel
theorem dX5_stays_84 : decode cX5_stays 84 = .ok (.aload_n 0, 1) := by decide +kernel
theorem dX5_stays_85 : decode cX5_stays 85 = .ok (.getfield 19, 3) := by decide +kernel
theorem dX5_stays_88 : decode cX5_stays 88 = .ok (.aload_n 0, 1) := by decide +kernel
theorem dX5_stays_89 : decode cX5_stays 89 = .ok (.getfield 7, 3) := by decide +kernel
theorem dX5_stays_92 : decode cX5_stays 92 = .ok (.invokestatic 160, 3) := by decide +kernel
theorem dX5_stays_95 : decode cX5_stays 95 = .ok (.iload 4, 2) := by decide +kernel
theorem dX5_stays_97 : decode cX5_stays 97 = .ok (.ireturn, 1) := by decide +kernel
theorem dX5_out_0 : decode cX5_out 0 = .ok (.iload_n 1, 1) := by decide +kernel
theorem dX5_out_1 : decode cX5_out 1 = .ok (.invokestatic 41, 3) := by decide +kernel
theorem dX5_out_4 : decode cX5_out 4 = .ok (.ifCond .eq 15, 3) := by decide +kernel
theorem dX5_out_7 : decode cX5_out 7 = .ok (.iload_n 2, 1) := by decide +kernel
theorem dX5_out_8 : decode cX5_out 8 = .ok (.i2l, 1) := by decide +kernel
theorem dX5_out_9 : decode cX5_out 9 = .ok (.lconst 0, 1) := by decide +kernel
theorem dX5_out_10 : decode cX5_out 10 = .ok (.ldc2_w 192, 3) := by decide +kernel
theorem dX5_out_13 : decode cX5_out 13 = .ok (.invokestatic 56, 3) := by decide +kernel
theorem dX5_out_16 : decode cX5_out 16 = .ok (.ifCond .ne 10, 3) := by decide +kernel
theorem dX5_out_19 : decode cX5_out 19 = .ok (.aload_n 0, 1) := by decide +kernel
theorem dX5_out_20 : decode cX5_out 20 = .ok (.ldc 40, 2) := by decide +kernel
theorem dX5_out_22 : decode cX5_out 22 = .ok (.invokevirtual 46, 3) := by decide +kernel
theorem dX5_out_25 : decode cX5_out 25 = .ok (.ireturn, 1) := by decide +kernel
theorem dX5_out_26 : decode cX5_out 26 = .ok (.iconst (-1), 1) := by decide +kernel
theorem dX5_out_27 : decode cX5_out 27 = .ok (.istore_n 3, 1) := by decide +kernel
theorem dX5_out_28 : decode cX5_out 28 = .ok (.iconst 0, 1) := by decide +kernel
theorem dX5_out_29 : decode cX5_out 29 = .ok (.istore 4, 2) := by decide +kernel
theorem dX5_out_31 : decode cX5_out 31 = .ok (.iload 4, 2) := by decide +kernel
theorem dX5_out_33 : decode cX5_out 33 = .ok (.iconst 1, 1) := by decide +kernel
theorem dX5_out_34 : decode cX5_out 34 = .ok (.aload_n 0, 1) := by decide +kernel
theorem dX5_out_35 : decode cX5_out 35 = .ok (.getfield 7, 3) := by decide +kernel
theorem dX5_out_38 : decode cX5_out 38 = .ok (.iconst 0, 1) := by decide +kernel
theorem dX5_out_39 : decode cX5_out 39 = .ok (.iaload, 1) := by decide +kernel
theorem dX5_out_40 : decode cX5_out 40 = .ok (.ishl, 1) := by decide +kernel
theorem dX5_out_41 : decode cX5_out 41 = .ok (.if_icmp .ge 43, 3) := by decide +kernel
theorem dX5_out_44 : decode cX5_out 44 = .ok (.iload_n 3, 1) := by decide +kernel
theorem dX5_out_45 : decode cX5_out 45 = .ok (.ifCond .lt 15, 3) := by decide +kernel
theorem dX5_out_48 : decode cX5_out 48 = .ok (.iload 4, 2) := by decide +kernel
theorem dX5_out_50 : decode cX5_out 50 = .ok (.invokestatic 78, 3) := by decide +kernel
theorem dX5_out_53 : decode cX5_out 53 = .ok (.iload_n 3, 1) := by decide +kernel
theorem dX5_out_54 : decode cX5_out 54 = .ok (.invokestatic 78, 3) := by decide +kernel
theorem dX5_out_57 : decode cX5_out 57 = .ok (.if_icmp .ge 19, 3) := by decide +kernel
theorem dX5_out_60 : decode cX5_out 60 = .ok (.aload_n 0, 1) := by decide +kernel
theorem dX5_out_61 : decode cX5_out 61 = .ok (.iload_n 1, 1) := by decide +kernel
theorem dX5_out_62 : decode cX5_out 62 = .ok (.iload_n 2, 1) := by decide +kernel
theorem dX5_out_63 : decode cX5_out 63 = .ok (.iload 4, 2) := by decide +kernel
theorem dX5_out_65 : decode cX5_out 65 = .ok (.invokevirtual 194, 3) := by decide +kernel
theorem dX5_out_68 : decode cX5_out 68 = .ok (.ifCond .eq 8, 3) := by decide +kernel
theorem dX5_out_71 : decode cX5_out 71 = .ok (.iload 4, 2) := by decide +kernel
theorem dX5_out_73 : decode cX5_out 73 = .ok (.goto 4, 3) := by decide +kernel
theorem dX5_out_76 : decode cX5_out 76 = .ok (.iload_n 3, 1) := by decide +kernel
theorem dX5_out_77 : decode cX5_out 77 = .ok (.istore_n 3, 1) := by decide +kernel
theorem dX5_out_78 : decode cX5_out 78 = .ok (.iinc 4 1, 3) := by decide +kernel
theorem dX5_out_81 : decode cX5_out 81 = .ok (.goto (-50), 3) := by decide +kernel
theorem dX5_out_84 : decode cX5_out 84 = .ok (.iload_n 3, 1) := by decide +kernel
theorem dX5_out_85 : decode cX5_out 85 = .ok (.ireturn, 1) := by decide +kernel
theorem dX5_isTold_0 : decode cX5_isTold 0 = .ok (.aload_n 0, 1) := by decide +kernel
theorem dX5_isTold_1 : decode cX5_isTold 1 = .ok (.getfield 7, 3) := by decide +kernel
theorem dX5_isTold_4 : decode cX5_isTold 4 = .ok (.aload_n 0, 1) := by decide +kernel
theorem dX5_isTold_5 : decode cX5_isTold 5 = .ok (.getfield 19, 3) := by decide +kernel
theorem dX5_isTold_8 : decode cX5_isTold 8 = .ok (.invokestatic 160, 3) := by decide +kernel
theorem dX5_isTold_11 : decode cX5_isTold 11 = .ok (.aload_n 0, 1) := by decide +kernel
theorem dX5_isTold_12 : decode cX5_isTold 12 = .ok (.iload_n 3, 1) := by decide +kernel
theorem dX5_isTold_13 : decode cX5_isTold 13 = .ok (.invokevirtual 139, 3) := by decide +kernel
theorem dX5_isTold_16 : decode cX5_isTold 16 = .ok (.iconst 1, 1) := by decide +kernel
theorem dX5_isTold_17 : decode cX5_isTold 17 = .ok (.istore 4, 2) := by decide +kernel
theorem dX5_isTold_19 : decode cX5_isTold 19 = .ok (.iconst 0, 1) := by decide +kernel
theorem dX5_isTold_20 : decode cX5_isTold 20 = .ok (.istore 5, 2) := by decide +kernel
theorem dX5_isTold_22 : decode cX5_isTold 22 = .ok (.iload 5, 2) := by decide +kernel
theorem dX5_isTold_24 : decode cX5_isTold 24 = .ok (.aload_n 0, 1) := by decide +kernel
theorem dX5_isTold_25 : decode cX5_isTold 25 = .ok (.getfield 31, 3) := by decide +kernel
theorem dX5_isTold_28 : decode cX5_isTold 28 = .ok (.iload_n 1, 1) := by decide +kernel
theorem dX5_isTold_29 : decode cX5_isTold 29 = .ok (.iaload, 1) := by decide +kernel
theorem dX5_isTold_30 : decode cX5_isTold 30 = .ok (.if_icmp .ge 58, 3) := by decide +kernel
theorem dX5_isTold_33 : decode cX5_isTold 33 = .ok (.iload 5, 2) := by decide +kernel
theorem dX5_isTold_35 : decode cX5_isTold 35 = .ok (.bipush 8, 2) := by decide +kernel
theorem dX5_isTold_37 : decode cX5_isTold 37 = .ok (.if_icmp .ge 51, 3) := by decide +kernel
theorem dX5_isTold_40 : decode cX5_isTold 40 = .ok (.aload_n 0, 1) := by decide +kernel
theorem dX5_isTold_41 : decode cX5_isTold 41 = .ok (.getfield 34, 3) := by decide +kernel
theorem dX5_isTold_44 : decode cX5_isTold 44 = .ok (.bipush 40, 2) := by decide +kernel
theorem dX5_isTold_46 : decode cX5_isTold 46 = .ok (.iload_n 1, 1) := by decide +kernel
theorem dX5_isTold_47 : decode cX5_isTold 47 = .ok (.imul, 1) := by decide +kernel
theorem dX5_isTold_48 : decode cX5_isTold 48 = .ok (.iload 5, 2) := by decide +kernel
theorem dX5_isTold_50 : decode cX5_isTold 50 = .ok (.iadd, 1) := by decide +kernel
theorem dX5_isTold_51 : decode cX5_isTold 51 = .ok (.iaload, 1) := by decide +kernel
theorem dX5_isTold_52 : decode cX5_isTold 52 = .ok (.istore 6, 2) := by decide +kernel
theorem dX5_isTold_54 : decode cX5_isTold 54 = .ok (.iload 4, 2) := by decide +kernel
theorem dX5_isTold_56 : decode cX5_isTold 56 = .ok (.iload 6, 2) := by decide +kernel
theorem dX5_isTold_58 : decode cX5_isTold 58 = .ok (.iconst (-1), 1) := by decide +kernel
theorem dX5_isTold_59 : decode cX5_isTold 59 = .ok (.if_icmp .eq 15, 3) := by decide +kernel
theorem dX5_isTold_62 : decode cX5_isTold 62 = .ok (.iload 6, 2) := by decide +kernel
theorem dX5_isTold_64 : decode cX5_isTold 64 = .ok (.aload_n 0, 1) := by decide +kernel
theorem dX5_isTold_65 : decode cX5_isTold 65 = .ok (.iload_n 2, 1) := by decide +kernel
theorem dX5_isTold_66 : decode cX5_isTold 66 = .ok (.iload 5, 2) := by decide +kernel
theorem dX5_isTold_68 : decode cX5_isTold 68 = .ok (.invokevirtual 64, 3) := by decide +kernel
theorem dX5_isTold_71 : decode cX5_isTold 71 = .ok (.if_icmp .ne 7, 3) := by decide +kernel
theorem dX5_isTold_74 : decode cX5_isTold 74 = .ok (.iconst 1, 1) := by decide +kernel
theorem dX5_isTold_75 : decode cX5_isTold 75 = .ok (.goto 4, 3) := by decide +kernel
theorem dX5_isTold_78 : decode cX5_isTold 78 = .ok (.iconst 0, 1) := by decide +kernel
theorem dX5_isTold_79 : decode cX5_isTold 79 = .ok (.iand, 1) := by decide +kernel
theorem dX5_isTold_80 : decode cX5_isTold 80 = .ok (.istore 4, 2) := by decide +kernel
theorem dX5_isTold_82 : decode cX5_isTold 82 = .ok (.iinc 5 1, 3) := by decide +kernel
theorem dX5_isTold_85 : decode cX5_isTold 85 = .ok (.goto (-63), 3) := by decide +kernel
theorem dX5_isTold_88 : decode cX5_isTold 88 = .ok (.aload_n 0, 1) := by decide +kernel
theorem dX5_isTold_89 : decode cX5_isTold 89 = .ok (.getfield 19, 3) := by decide +kernel
theorem dX5_isTold_92 : decode cX5_isTold 92 = .ok (.aload_n 0, 1) := by decide +kernel
theorem dX5_isTold_93 : decode cX5_isTold 93 = .ok (.getfield 7, 3) := by decide +kernel
theorem dX5_isTold_96 : decode cX5_isTold 96 = .ok (.invokestatic 160, 3) := by decide +kernel
theorem dX5_isTold_99 : decode cX5_isTold 99 = .ok (.iload 4, 2) := by decide +kernel
theorem dX5_isTold_101 : decode cX5_isTold 101 = .ok (.ireturn, 1) := by decide +kernel
theorem dX5_fits_0 : decode cX5_fits 0 = .ok (.aload_n 0, 1) := by decide +kernel
theorem dX5_fits_1 : decode cX5_fits 1 = .ok (.iload_n 1, 1) := by decide +kernel
theorem dX5_fits_2 : decode cX5_fits 2 = .ok (.invokevirtual 197, 3) := by decide +kernel
theorem dX5_fits_5 : decode cX5_fits 5 = .ok (.ifCond .eq 11, 3) := by decide +kernel
theorem dX5_fits_8 : decode cX5_fits 8 = .ok (.aload_n 0, 1) := by decide +kernel
theorem dX5_fits_9 : decode cX5_fits 9 = .ok (.iload_n 1, 1) := by decide +kernel
theorem dX5_fits_10 : decode cX5_fits 10 = .ok (.invokevirtual 197, 3) := by decide +kernel
theorem dX5_fits_13 : decode cX5_fits 13 = .ok (.goto 30, 3) := by decide +kernel
theorem dX5_fits_16 : decode cX5_fits 16 = .ok (.iload_n 2, 1) := by decide +kernel
theorem dX5_fits_17 : decode cX5_fits 17 = .ok (.iload_n 3, 1) := by decide +kernel
theorem dX5_fits_18 : decode cX5_fits 18 = .ok (.invokestatic 50, 3) := by decide +kernel
theorem dX5_fits_21 : decode cX5_fits 21 = .ok (.ifCond .eq 20, 3) := by decide +kernel
theorem dX5_fits_24 : decode cX5_fits 24 = .ok (.iload 4, 2) := by decide +kernel
theorem dX5_fits_26 : decode cX5_fits 26 = .ok (.i2l, 1) := by decide +kernel
theorem dX5_fits_27 : decode cX5_fits 27 = .ok (.lconst 0, 1) := by decide +kernel
theorem dX5_fits_28 : decode cX5_fits 28 = .ok (.ldc2_w 192, 3) := by decide +kernel
theorem dX5_fits_31 : decode cX5_fits 31 = .ok (.invokestatic 56, 3) := by decide +kernel
theorem dX5_fits_34 : decode cX5_fits 34 = .ok (.ifCond .eq 7, 3) := by decide +kernel
theorem dX5_fits_37 : decode cX5_fits 37 = .ok (.iconst 0, 1) := by decide +kernel
theorem dX5_fits_38 : decode cX5_fits 38 = .ok (.goto 5, 3) := by decide +kernel
theorem dX5_fits_41 : decode cX5_fits 41 = .ok (.ldc 40, 2) := by decide +kernel
theorem dX5_fits_43 : decode cX5_fits 43 = .ok (.istore 5, 2) := by decide +kernel
theorem dX5_fits_45 : decode cX5_fits 45 = .ok (.iload 5, 2) := by decide +kernel
theorem dX5_fits_47 : decode cX5_fits 47 = .ok (.ifCond .eq 10, 3) := by decide +kernel
theorem dX5_fits_50 : decode cX5_fits 50 = .ok (.aload_n 0, 1) := by decide +kernel
theorem dX5_fits_51 : decode cX5_fits 51 = .ok (.iload 5, 2) := by decide +kernel
theorem dX5_fits_53 : decode cX5_fits 53 = .ok (.invokevirtual 46, 3) := by decide +kernel
theorem dX5_fits_56 : decode cX5_fits 56 = .ok (.ireturn, 1) := by decide +kernel
theorem dX5_fits_57 : decode cX5_fits 57 = .ok (.iconst 3, 1) := by decide +kernel
theorem dX5_fits_58 : decode cX5_fits 58 = .ok (.bipush 8, 2) := by decide +kernel
theorem dX5_fits_60 : decode cX5_fits 60 = .ok (.iload_n 2, 1) := by decide +kernel
theorem dX5_fits_61 : decode cX5_fits 61 = .ok (.imul, 1) := by decide +kernel
theorem dX5_fits_62 : decode cX5_fits 62 = .ok (.iadd, 1) := by decide +kernel
theorem dX5_fits_63 : decode cX5_fits 63 = .ok (.iload_n 3, 1) := by decide +kernel
theorem dX5_fits_64 : decode cX5_fits 64 = .ok (.iadd, 1) := by decide +kernel
theorem dX5_fits_65 : decode cX5_fits 65 = .ok (.istore 6, 2) := by decide +kernel
theorem dX5_fits_67 : decode cX5_fits 67 = .ok (.aload_n 0, 1) := by decide +kernel
theorem dX5_fits_68 : decode cX5_fits 68 = .ok (.getfield 7, 3) := by decide +kernel
theorem dX5_fits_71 : decode cX5_fits 71 = .ok (.iload 6, 2) := by decide +kernel
theorem dX5_fits_73 : decode cX5_fits 73 = .ok (.iaload, 1) := by decide +kernel
theorem dX5_fits_74 : decode cX5_fits 74 = .ok (.istore 7, 2) := by decide +kernel
theorem dX5_fits_76 : decode cX5_fits 76 = .ok (.iconst 0, 1) := by decide +kernel
theorem dX5_fits_77 : decode cX5_fits 77 = .ok (.istore 8, 2) := by decide +kernel
theorem dX5_fits_79 : decode cX5_fits 79 = .ok (.iconst 0, 1) := by decide +kernel
theorem dX5_fits_80 : decode cX5_fits 80 = .ok (.istore 9, 2) := by decide +kernel
theorem dX5_fits_82 : decode cX5_fits 82 = .ok (.iload 9, 2) := by decide +kernel
theorem dX5_fits_84 : decode cX5_fits 84 = .ok (.bipush 9, 2) := by decide +kernel
theorem dX5_fits_86 : decode cX5_fits 86 = .ok (.if_icmp .gt 42, 3) := by decide +kernel
theorem dX5_fits_89 : decode cX5_fits 89 = .ok (.aload_n 0, 1) := by decide +kernel
theorem dX5_fits_90 : decode cX5_fits 90 = .ok (.getfield 7, 3) := by decide +kernel
theorem dX5_fits_93 : decode cX5_fits 93 = .ok (.iload 6, 2) := by decide +kernel
theorem dX5_fits_95 : decode cX5_fits 95 = .ok (.iload 9, 2) := by decide +kernel
theorem dX5_fits_97 : decode cX5_fits 97 = .ok (.iastore, 1) := by decide +kernel
theorem dX5_fits_98 : decode cX5_fits 98 = .ok (.iload 8, 2) := by decide +kernel
theorem dX5_fits_100 : decode cX5_fits 100 = .ok (.aload_n 0, 1) := by decide +kernel
theorem dX5_fits_101 : decode cX5_fits 101 = .ok (.iload_n 1, 1) := by decide +kernel
theorem dX5_fits_102 : decode cX5_fits 102 = .ok (.iload_n 2, 1) := by decide +kernel
theorem dX5_fits_103 : decode cX5_fits 103 = .ok (.iload 4, 2) := by decide +kernel
theorem dX5_fits_105 : decode cX5_fits 105 = .ok (.invokevirtual 200, 3) := by decide +kernel
theorem dX5_fits_108 : decode cX5_fits 108 = .ok (.ifCond .eq 10, 3) := by decide +kernel
theorem dX5_fits_111 : decode cX5_fits 111 = .ok (.iconst 1, 1) := by decide +kernel
theorem dX5_fits_112 : decode cX5_fits 112 = .ok (.iload 9, 2) := by decide +kernel
theorem dX5_fits_114 : decode cX5_fits 114 = .ok (.ishl, 1) := by decide +kernel
theorem dX5_fits_115 : decode cX5_fits 115 = .ok (.goto 4, 3) := by decide +kernel
theorem dX5_fits_118 : decode cX5_fits 118 = .ok (.iconst 0, 1) := by decide +kernel
theorem dX5_fits_119 : decode cX5_fits 119 = .ok (.ior, 1) := by decide +kernel
theorem dX5_fits_120 : decode cX5_fits 120 = .ok (.istore 8, 2) := by decide +kernel
theorem dX5_fits_122 : decode cX5_fits 122 = .ok (.iinc 9 1, 3) := by decide +kernel
theorem dX5_fits_125 : decode cX5_fits 125 = .ok (.goto (-43), 3) := by decide +kernel
theorem dX5_fits_128 : decode cX5_fits 128 = .ok (.aload_n 0, 1) := by decide +kernel
theorem dX5_fits_129 : decode cX5_fits 129 = .ok (.getfield 7, 3) := by decide +kernel
theorem dX5_fits_132 : decode cX5_fits 132 = .ok (.iload 6, 2) := by decide +kernel
theorem dX5_fits_134 : decode cX5_fits 134 = .ok (.iload 7, 2) := by decide +kernel
theorem dX5_fits_136 : decode cX5_fits 136 = .ok (.iastore, 1) := by decide +kernel
theorem dX5_fits_137 : decode cX5_fits 137 = .ok (.iload 8, 2) := by decide +kernel
theorem dX5_fits_139 : decode cX5_fits 139 = .ok (.ireturn, 1) := by decide +kernel
theorem dX5_isFedSo_0 : decode cX5_isFedSo 0 = .ok (.aload_n 0, 1) := by decide +kernel
theorem dX5_isFedSo_1 : decode cX5_isFedSo 1 = .ok (.getfield 7, 3) := by decide +kernel
theorem dX5_isFedSo_4 : decode cX5_isFedSo 4 = .ok (.aload_n 0, 1) := by decide +kernel
theorem dX5_isFedSo_5 : decode cX5_isFedSo 5 = .ok (.getfield 19, 3) := by decide +kernel
theorem dX5_isFedSo_8 : decode cX5_isFedSo 8 = .ok (.invokestatic 160, 3) := by decide +kernel
theorem dX5_isFedSo_11 : decode cX5_isFedSo 11 = .ok (.iconst 1, 1) := by decide +kernel
theorem dX5_isFedSo_12 : decode cX5_isFedSo 12 = .ok (.istore_n 3, 1) := by decide +kernel
theorem dX5_isFedSo_13 : decode cX5_isFedSo 13 = .ok (.iconst 0, 1) := by decide +kernel
theorem dX5_isFedSo_14 : decode cX5_isFedSo 14 = .ok (.istore 4, 2) := by decide +kernel
theorem dX5_isFedSo_16 : decode cX5_isFedSo 16 = .ok (.iload 4, 2) := by decide +kernel
theorem dX5_isFedSo_18 : decode cX5_isFedSo 18 = .ok (.aload_n 0, 1) := by decide +kernel
theorem dX5_isFedSo_19 : decode cX5_isFedSo 19 = .ok (.getfield 31, 3) := by decide +kernel
theorem dX5_isFedSo_22 : decode cX5_isFedSo 22 = .ok (.iload_n 1, 1) := by decide +kernel
theorem dX5_isFedSo_23 : decode cX5_isFedSo 23 = .ok (.iaload, 1) := by decide +kernel
theorem dX5_isFedSo_24 : decode cX5_isFedSo 24 = .ok (.if_icmp .ge 55, 3) := by decide +kernel
theorem dX5_isFedSo_27 : decode cX5_isFedSo 27 = .ok (.iload_n 3, 1) := by decide +kernel
theorem dX5_isFedSo_28 : decode cX5_isFedSo 28 = .ok (.ifCond .eq 51, 3) := by decide +kernel
theorem dX5_isFedSo_31 : decode cX5_isFedSo 31 = .ok (.aload_n 0, 1) := by decide +kernel
theorem dX5_isFedSo_32 : decode cX5_isFedSo 32 = .ok (.getfield 34, 3) := by decide +kernel
theorem dX5_isFedSo_35 : decode cX5_isFedSo 35 = .ok (.bipush 40, 2) := by decide +kernel
theorem dX5_isFedSo_37 : decode cX5_isFedSo 37 = .ok (.iload_n 1, 1) := by decide +kernel
theorem dX5_isFedSo_38 : decode cX5_isFedSo 38 = .ok (.imul, 1) := by decide +kernel
theorem dX5_isFedSo_39 : decode cX5_isFedSo 39 = .ok (.iload 4, 2) := by decide +kernel
theorem dX5_isFedSo_41 : decode cX5_isFedSo 41 = .ok (.iadd, 1) := by decide +kernel
theorem dX5_isFedSo_42 : decode cX5_isFedSo 42 = .ok (.iaload, 1) := by decide +kernel
theorem dX5_isFedSo_43 : decode cX5_isFedSo 43 = .ok (.istore 5, 2) := by decide +kernel
theorem dX5_isFedSo_45 : decode cX5_isFedSo 45 = .ok (.iload 5, 2) := by decide +kernel
theorem dX5_isFedSo_47 : decode cX5_isFedSo 47 = .ok (.iconst (-1), 1) := by decide +kernel
theorem dX5_isFedSo_48 : decode cX5_isFedSo 48 = .ok (.if_icmp .eq 14, 3) := by decide +kernel
theorem dX5_isFedSo_51 : decode cX5_isFedSo 51 = .ok (.iload 5, 2) := by decide +kernel
theorem dX5_isFedSo_53 : decode cX5_isFedSo 53 = .ok (.aload_n 0, 1) := by decide +kernel
theorem dX5_isFedSo_54 : decode cX5_isFedSo 54 = .ok (.iload_n 2, 1) := by decide +kernel
theorem dX5_isFedSo_55 : decode cX5_isFedSo 55 = .ok (.iconst 3, 1) := by decide +kernel
theorem dX5_isFedSo_56 : decode cX5_isFedSo 56 = .ok (.invokevirtual 67, 3) := by decide +kernel
theorem dX5_isFedSo_59 : decode cX5_isFedSo 59 = .ok (.if_icmp .ne 7, 3) := by decide +kernel
theorem dX5_isFedSo_62 : decode cX5_isFedSo 62 = .ok (.iconst 1, 1) := by decide +kernel
theorem dX5_isFedSo_63 : decode cX5_isFedSo 63 = .ok (.goto 4, 3) := by decide +kernel
theorem dX5_isFedSo_66 : decode cX5_isFedSo 66 = .ok (.iconst 0, 1) := by decide +kernel
theorem dX5_isFedSo_67 : decode cX5_isFedSo 67 = .ok (.istore_n 3, 1) := by decide +kernel
theorem dX5_isFedSo_68 : decode cX5_isFedSo 68 = .ok (.aload_n 0, 1) := by decide +kernel
theorem dX5_isFedSo_69 : decode cX5_isFedSo 69 = .ok (.iconst 0, 1) := by decide +kernel
theorem dX5_isFedSo_70 : decode cX5_isFedSo 70 = .ok (.invokevirtual 131, 3) := by decide +kernel
theorem dX5_isFedSo_73 : decode cX5_isFedSo 73 = .ok (.iinc 4 1, 3) := by decide +kernel
theorem dX5_isFedSo_76 : decode cX5_isFedSo 76 = .ok (.goto (-60), 3) := by decide +kernel
theorem dX5_isFedSo_79 : decode cX5_isFedSo 79 = .ok (.aload_n 0, 1) := by decide +kernel
theorem dX5_isFedSo_80 : decode cX5_isFedSo 80 = .ok (.getfield 19, 3) := by decide +kernel
theorem dX5_isFedSo_83 : decode cX5_isFedSo 83 = .ok (.aload_n 0, 1) := by decide +kernel
theorem dX5_isFedSo_84 : decode cX5_isFedSo 84 = .ok (.getfield 7, 3) := by decide +kernel
theorem dX5_isFedSo_87 : decode cX5_isFedSo 87 = .ok (.invokestatic 160, 3) := by decide +kernel
theorem dX5_isFedSo_90 : decode cX5_isFedSo 90 = .ok (.iload_n 3, 1) := by decide +kernel
theorem dX5_isFedSo_91 : decode cX5_isFedSo 91 = .ok (.ireturn, 1) := by decide +kernel
theorem dX5_kinds_0 : decode cX5_kinds 0 = .ok (.aload_n 0, 1) := by decide +kernel
theorem dX5_kinds_1 : decode cX5_kinds 1 = .ok (.iload_n 1, 1) := by decide +kernel
theorem dX5_kinds_2 : decode cX5_kinds 2 = .ok (.invokevirtual 197, 3) := by decide +kernel
theorem dX5_kinds_5 : decode cX5_kinds 5 = .ok (.ifCond .eq 11, 3) := by decide +kernel
theorem dX5_kinds_8 : decode cX5_kinds 8 = .ok (.aload_n 0, 1) := by decide +kernel
theorem dX5_kinds_9 : decode cX5_kinds 9 = .ok (.iload_n 1, 1) := by decide +kernel
theorem dX5_kinds_10 : decode cX5_kinds 10 = .ok (.invokevirtual 197, 3) := by decide +kernel
theorem dX5_kinds_13 : decode cX5_kinds 13 = .ok (.goto 17, 3) := by decide +kernel
theorem dX5_kinds_16 : decode cX5_kinds 16 = .ok (.aload_n 0, 1) := by decide +kernel
theorem dX5_kinds_17 : decode cX5_kinds 17 = .ok (.iload_n 2, 1) := by decide +kernel
theorem dX5_kinds_18 : decode cX5_kinds 18 = .ok (.invokevirtual 112, 3) := by decide +kernel
theorem dX5_kinds_21 : decode cX5_kinds 21 = .ok (.ifCond .eq 7, 3) := by decide +kernel
theorem dX5_kinds_24 : decode cX5_kinds 24 = .ok (.iconst 0, 1) := by decide +kernel
theorem dX5_kinds_25 : decode cX5_kinds 25 = .ok (.goto 5, 3) := by decide +kernel
theorem dX5_kinds_28 : decode cX5_kinds 28 = .ok (.ldc 40, 2) := by decide +kernel
theorem dX5_kinds_30 : decode cX5_kinds 30 = .ok (.istore_n 3, 1) := by decide +kernel
theorem dX5_kinds_31 : decode cX5_kinds 31 = .ok (.iload_n 3, 1) := by decide +kernel
theorem dX5_kinds_32 : decode cX5_kinds 32 = .ok (.ifCond .eq 9, 3) := by decide +kernel
theorem dX5_kinds_35 : decode cX5_kinds 35 = .ok (.aload_n 0, 1) := by decide +kernel
theorem dX5_kinds_36 : decode cX5_kinds 36 = .ok (.iload_n 3, 1) := by decide +kernel
theorem dX5_kinds_37 : decode cX5_kinds 37 = .ok (.invokevirtual 46, 3) := by decide +kernel
theorem dX5_kinds_40 : decode cX5_kinds 40 = .ok (.ireturn, 1) := by decide +kernel
theorem dX5_kinds_41 : decode cX5_kinds 41 = .ok (.aload_n 0, 1) := by decide +kernel
theorem dX5_kinds_42 : decode cX5_kinds 42 = .ok (.iload_n 2, 1) := by decide +kernel
theorem dX5_kinds_43 : decode cX5_kinds 43 = .ok (.iconst 0, 1) := by decide +kernel
theorem dX5_kinds_44 : decode cX5_kinds 44 = .ok (.invokevirtual 67, 3) := by decide +kernel
theorem dX5_kinds_47 : decode cX5_kinds 47 = .ok (.istore 4, 2) := by decide +kernel
theorem dX5_kinds_49 : decode cX5_kinds 49 = .ok (.iconst 0, 1) := by decide +kernel
theorem dX5_kinds_50 : decode cX5_kinds 50 = .ok (.istore 5, 2) := by decide +kernel
theorem dX5_kinds_52 : decode cX5_kinds 52 = .ok (.iconst 0, 1) := by decide +kernel
theorem dX5_kinds_53 : decode cX5_kinds 53 = .ok (.istore 6, 2) := by decide +kernel
theorem dX5_kinds_55 : decode cX5_kinds 55 = .ok (.iload 6, 2) := by decide +kernel
theorem dX5_kinds_57 : decode cX5_kinds 57 = .ok (.bipush 6, 2) := by decide +kernel
theorem dX5_kinds_59 : decode cX5_kinds 59 = .ok (.if_icmp .gt 43, 3) := by decide +kernel
theorem dX5_kinds_62 : decode cX5_kinds 62 = .ok (.aload_n 0, 1) := by decide +kernel
theorem dX5_kinds_63 : decode cX5_kinds 63 = .ok (.getfield 7, 3) := by decide +kernel
theorem dX5_kinds_66 : decode cX5_kinds 66 = .ok (.iload_n 2, 1) := by decide +kernel
theorem dX5_kinds_67 : decode cX5_kinds 67 = .ok (.iconst 0, 1) := by decide +kernel
theorem dX5_kinds_68 : decode cX5_kinds 68 = .ok (.invokestatic 84, 3) := by decide +kernel
theorem dX5_kinds_71 : decode cX5_kinds 71 = .ok (.iload 6, 2) := by decide +kernel
theorem dX5_kinds_73 : decode cX5_kinds 73 = .ok (.iastore, 1) := by decide +kernel
theorem dX5_kinds_74 : decode cX5_kinds 74 = .ok (.iload 5, 2) := by decide +kernel
theorem dX5_kinds_76 : decode cX5_kinds 76 = .ok (.aload_n 0, 1) := by decide +kernel
theorem dX5_kinds_77 : decode cX5_kinds 77 = .ok (.iload_n 1, 1) := by decide +kernel
theorem dX5_kinds_78 : decode cX5_kinds 78 = .ok (.iload_n 2, 1) := by decide +kernel
theorem dX5_kinds_79 : decode cX5_kinds 79 = .ok (.invokevirtual 203, 3) := by decide +kernel
theorem dX5_kinds_82 : decode cX5_kinds 82 = .ok (.ifCond .eq 10, 3) := by decide +kernel
theorem dX5_kinds_85 : decode cX5_kinds 85 = .ok (.iconst 1, 1) := by decide +kernel
theorem dX5_kinds_86 : decode cX5_kinds 86 = .ok (.iload 6, 2) := by decide +kernel
theorem dX5_kinds_88 : decode cX5_kinds 88 = .ok (.ishl, 1) := by decide +kernel
theorem dX5_kinds_89 : decode cX5_kinds 89 = .ok (.goto 4, 3) := by decide +kernel
theorem dX5_kinds_92 : decode cX5_kinds 92 = .ok (.iconst 0, 1) := by decide +kernel
theorem dX5_kinds_93 : decode cX5_kinds 93 = .ok (.ior, 1) := by decide +kernel
theorem dX5_kinds_94 : decode cX5_kinds 94 = .ok (.istore 5, 2) := by decide +kernel
theorem dX5_kinds_96 : decode cX5_kinds 96 = .ok (.iinc 6 1, 3) := by decide +kernel
theorem dX5_kinds_99 : decode cX5_kinds 99 = .ok (.goto (-44), 3) := by decide +kernel
theorem dX5_kinds_102 : decode cX5_kinds 102 = .ok (.aload_n 0, 1) := by decide +kernel
theorem dX5_kinds_103 : decode cX5_kinds 103 = .ok (.getfield 7, 3) := by decide +kernel
theorem dX5_kinds_106 : decode cX5_kinds 106 = .ok (.iload_n 2, 1) := by decide +kernel
theorem dX5_kinds_107 : decode cX5_kinds 107 = .ok (.iconst 0, 1) := by decide +kernel
theorem dX5_kinds_108 : decode cX5_kinds 108 = .ok (.invokestatic 84, 3) := by decide +kernel
theorem dX5_kinds_111 : decode cX5_kinds 111 = .ok (.iload 4, 2) := by decide +kernel
theorem dX5_kinds_113 : decode cX5_kinds 113 = .ok (.iastore, 1) := by decide +kernel
theorem dX5_kinds_114 : decode cX5_kinds 114 = .ok (.iload 5, 2) := by decide +kernel
theorem dX5_kinds_116 : decode cX5_kinds 116 = .ok (.ireturn, 1) := by decide +kernel
theorem dX5_draw_0 : decode cX5_draw 0 = .ok (.aload_n 0, 1) := by decide +kernel
theorem dX5_draw_1 : decode cX5_draw 1 = .ok (.getfield 7, 3) := by decide +kernel
theorem dX5_draw_4 : decode cX5_draw 4 = .ok (.iconst 2, 1) := by decide +kernel
theorem dX5_draw_5 : decode cX5_draw 5 = .ok (.aload_n 0, 1) := by decide +kernel
theorem dX5_draw_6 : decode cX5_draw 6 = .ok (.getfield 7, 3) := by decide +kernel
theorem dX5_draw_9 : decode cX5_draw 9 = .ok (.iconst 2, 1) := by decide +kernel
theorem dX5_draw_10 : decode cX5_draw 10 = .ok (.iaload, 1) := by decide +kernel
theorem dX5_draw_11 : decode cX5_draw 11 = .ok (.ldc 206, 2) := by decide +kernel
theorem dX5_draw_13 : decode cX5_draw 13 = .ok (.imul, 1) := by decide +kernel
theorem dX5_draw_14 : decode cX5_draw 14 = .ok (.sipush 12345, 3) := by decide +kernel
theorem dX5_draw_17 : decode cX5_draw 17 = .ok (.iadd, 1) := by decide +kernel
theorem dX5_draw_18 : decode cX5_draw 18 = .ok (.iastore, 1) := by decide +kernel
theorem dX5_draw_19 : decode cX5_draw 19 = .ok (.aload_n 0, 1) := by decide +kernel
theorem dX5_draw_20 : decode cX5_draw 20 = .ok (.getfield 7, 3) := by decide +kernel
theorem dX5_draw_23 : decode cX5_draw 23 = .ok (.iconst 2, 1) := by decide +kernel
theorem dX5_draw_24 : decode cX5_draw 24 = .ok (.iaload, 1) := by decide +kernel
theorem dX5_draw_25 : decode cX5_draw 25 = .ok (.bipush 8, 2) := by decide +kernel
theorem dX5_draw_27 : decode cX5_draw 27 = .ok (.iushr, 1) := by decide +kernel
theorem dX5_draw_28 : decode cX5_draw 28 = .ok (.ireturn, 1) := by decide +kernel
theorem dX5_lights_0 : decode cX5_lights 0 = .ok (.iload_n 1, 1) := by decide +kernel
theorem dX5_lights_1 : decode cX5_lights 1 = .ok (.i2l, 1) := by decide +kernel
theorem dX5_lights_2 : decode cX5_lights 2 = .ok (.lconst 1, 1) := by decide +kernel
theorem dX5_lights_3 : decode cX5_lights 3 = .ok (.ldc2_w 192, 3) := by decide +kernel
theorem dX5_lights_6 : decode cX5_lights 6 = .ok (.invokestatic 56, 3) := by decide +kernel
theorem dX5_lights_9 : decode cX5_lights 9 = .ok (.ifCond .ne 10, 3) := by decide +kernel
theorem dX5_lights_12 : decode cX5_lights 12 = .ok (.aload_n 0, 1) := by decide +kernel
theorem dX5_lights_13 : decode cX5_lights 13 = .ok (.ldc 40, 2) := by decide +kernel
theorem dX5_lights_15 : decode cX5_lights 15 = .ok (.invokevirtual 46, 3) := by decide +kernel
theorem dX5_lights_18 : decode cX5_lights 18 = .ok (.ireturn, 1) := by decide +kernel
theorem dX5_lights_19 : decode cX5_lights 19 = .ok (.aload_n 0, 1) := by decide +kernel
theorem dX5_lights_20 : decode cX5_lights 20 = .ok (.getfield 7, 3) := by decide +kernel
theorem dX5_lights_23 : decode cX5_lights 23 = .ok (.iconst 1, 1) := by decide +kernel
theorem dX5_lights_24 : decode cX5_lights 24 = .ok (.iaload, 1) := by decide +kernel
theorem dX5_lights_25 : decode cX5_lights 25 = .ok (.iload_n 1, 1) := by decide +kernel
theorem dX5_lights_26 : decode cX5_lights 26 = .ok (.iadd, 1) := by decide +kernel
theorem dX5_lights_27 : decode cX5_lights 27 = .ok (.ldc 137, 2) := by decide +kernel
theorem dX5_lights_29 : decode cX5_lights 29 = .ok (.if_icmp .le 10, 3) := by decide +kernel
theorem dX5_lights_32 : decode cX5_lights 32 = .ok (.aload_n 0, 1) := by decide +kernel
theorem dX5_lights_33 : decode cX5_lights 33 = .ok (.ldc 138, 2) := by decide +kernel
theorem dX5_lights_35 : decode cX5_lights 35 = .ok (.invokevirtual 46, 3) := by decide +kernel
theorem dX5_lights_38 : decode cX5_lights 38 = .ok (.ireturn, 1) := by decide +kernel
theorem dX5_lights_39 : decode cX5_lights 39 = .ok (.iconst 0, 1) := by decide +kernel
theorem dX5_lights_40 : decode cX5_lights 40 = .ok (.istore_n 2, 1) := by decide +kernel
theorem dX5_lights_41 : decode cX5_lights 41 = .ok (.iload_n 2, 1) := by decide +kernel
theorem dX5_lights_42 : decode cX5_lights 42 = .ok (.iload_n 1, 1) := by decide +kernel
theorem dX5_lights_43 : decode cX5_lights 43 = .ok (.if_icmp .ge 51, 3) := by decide +kernel
theorem dX5_lights_46 : decode cX5_lights 46 = .ok (.aload_n 0, 1) := by decide +kernel
theorem dX5_lights_47 : decode cX5_lights 47 = .ok (.invokevirtual 207, 3) := by decide +kernel
theorem dX5_lights_50 : decode cX5_lights 50 = .ok (.bipush 8, 2) := by decide +kernel
theorem dX5_lights_52 : decode cX5_lights 52 = .ok (.irem, 1) := by decide +kernel
theorem dX5_lights_53 : decode cX5_lights 53 = .ok (.istore_n 3, 1) := by decide +kernel
theorem dX5_lights_54 : decode cX5_lights 54 = .ok (.aload_n 0, 1) := by decide +kernel
theorem dX5_lights_55 : decode cX5_lights 55 = .ok (.invokevirtual 207, 3) := by decide +kernel
theorem dX5_lights_58 : decode cX5_lights 58 = .ok (.bipush 6, 2) := by decide +kernel
theorem dX5_lights_60 : decode cX5_lights 60 = .ok (.irem, 1) := by decide +kernel
theorem dX5_lights_61 : decode cX5_lights 61 = .ok (.istore 4, 2) := by decide +kernel
theorem dX5_lights_63 : decode cX5_lights 63 = .ok (.aload_n 0, 1) := by decide +kernel
theorem dX5_lights_64 : decode cX5_lights 64 = .ok (.iload_n 3, 1) := by decide +kernel
theorem dX5_lights_65 : decode cX5_lights 65 = .ok (.invokevirtual 112, 3) := by decide +kernel
theorem dX5_lights_68 : decode cX5_lights 68 = .ok (.ifCond .eq 15, 3) := by decide +kernel
theorem dX5_lights_71 : decode cX5_lights 71 = .ok (.aload_n 0, 1) := by decide +kernel
theorem dX5_lights_72 : decode cX5_lights 72 = .ok (.getfield 7, 3) := by decide +kernel
theorem dX5_lights_75 : decode cX5_lights 75 = .ok (.iload_n 3, 1) := by decide +kernel
theorem dX5_lights_76 : decode cX5_lights 76 = .ok (.iconst 1, 1) := by decide +kernel
theorem dX5_lights_77 : decode cX5_lights 77 = .ok (.invokestatic 84, 3) := by decide +kernel
theorem dX5_lights_80 : decode cX5_lights 80 = .ok (.iload 4, 2) := by decide +kernel
theorem dX5_lights_82 : decode cX5_lights 82 = .ok (.iastore, 1) := by decide +kernel
theorem dX5_lights_83 : decode cX5_lights 83 = .ok (.aload_n 0, 1) := by decide +kernel
theorem dX5_lights_84 : decode cX5_lights 84 = .ok (.iconst 0, 1) := by decide +kernel
theorem dX5_lights_85 : decode cX5_lights 85 = .ok (.invokevirtual 131, 3) := by decide +kernel
theorem dX5_lights_88 : decode cX5_lights 88 = .ok (.iinc 2 1, 3) := by decide +kernel
theorem dX5_lights_91 : decode cX5_lights 91 = .ok (.goto (-50), 3) := by decide +kernel
theorem dX5_lights_94 : decode cX5_lights 94 = .ok (.aload_n 0, 1) := by decide +kernel
theorem dX5_lights_95 : decode cX5_lights 95 = .ok (.invokevirtual 142, 3) := by decide +kernel
theorem dX5_lights_98 : decode cX5_lights 98 = .ok (.ireturn, 1) := by decide +kernel
theorem dX5_odds_0 : decode cX5_odds 0 = .ok (.iload_n 1, 1) := by decide +kernel
theorem dX5_odds_1 : decode cX5_odds 1 = .ok (.i2l, 1) := by decide +kernel
theorem dX5_odds_2 : decode cX5_odds 2 = .ok (.lconst 0, 1) := by decide +kernel
theorem dX5_odds_3 : decode cX5_odds 3 = .ok (.ldc2_w 210, 3) := by decide +kernel
theorem dX5_odds_6 : decode cX5_odds 6 = .ok (.invokestatic 56, 3) := by decide +kernel
theorem dX5_odds_9 : decode cX5_odds 9 = .ok (.ifCond .eq 13, 3) := by decide +kernel
theorem dX5_odds_12 : decode cX5_odds 12 = .ok (.iload_n 2, 1) := by decide +kernel
theorem dX5_odds_13 : decode cX5_odds 13 = .ok (.i2l, 1) := by decide +kernel
theorem dX5_odds_14 : decode cX5_odds 14 = .ok (.lconst 0, 1) := by decide +kernel
theorem dX5_odds_15 : decode cX5_odds 15 = .ok (.lconst 1, 1) := by decide +kernel
theorem dX5_odds_16 : decode cX5_odds 16 = .ok (.invokestatic 56, 3) := by decide +kernel
theorem dX5_odds_19 : decode cX5_odds 19 = .ok (.ifCond .ne 11, 3) := by decide +kernel
theorem dX5_odds_22 : decode cX5_odds 22 = .ok (.aload_n 0, 1) := by decide +kernel
theorem dX5_odds_23 : decode cX5_odds 23 = .ok (.ldc 40, 2) := by decide +kernel
theorem dX5_odds_25 : decode cX5_odds 25 = .ok (.invokevirtual 46, 3) := by decide +kernel
theorem dX5_odds_28 : decode cX5_odds 28 = .ok (.i2l, 1) := by decide +kernel
theorem dX5_odds_29 : decode cX5_odds 29 = .ok (.lreturn, 1) := by decide +kernel
theorem dX5_odds_30 : decode cX5_odds 30 = .ok (.lconst 1, 1) := by decide +kernel
theorem dX5_odds_31 : decode cX5_odds 31 = .ok (.lstore_n 3, 1) := by decide +kernel
theorem dX5_odds_32 : decode cX5_odds 32 = .ok (.lconst 1, 1) := by decide +kernel
theorem dX5_odds_33 : decode cX5_odds 33 = .ok (.lstore 5, 2) := by decide +kernel
theorem dX5_odds_35 : decode cX5_odds 35 = .ok (.bipush 6, 2) := by decide +kernel
theorem dX5_odds_37 : decode cX5_odds 37 = .ok (.aload_n 0, 1) := by decide +kernel
theorem dX5_odds_38 : decode cX5_odds 38 = .ok (.invokevirtual 155, 3) := by decide +kernel
theorem dX5_odds_41 : decode cX5_odds 41 = .ok (.invokestatic 78, 3) := by decide +kernel
theorem dX5_odds_44 : decode cX5_odds 44 = .ok (.isub, 1) := by decide +kernel
theorem dX5_odds_45 : decode cX5_odds 45 = .ok (.istore 7, 2) := by decide +kernel
theorem dX5_odds_47 : decode cX5_odds 47 = .ok (.iconst 0, 1) := by decide +kernel
theorem dX5_odds_48 : decode cX5_odds 48 = .ok (.istore 8, 2) := by decide +kernel
theorem dX5_odds_50 : decode cX5_odds 50 = .ok (.iload 8, 2) := by decide +kernel
theorem dX5_odds_52 : decode cX5_odds 52 = .ok (.iload_n 1, 1) := by decide +kernel
theorem dX5_odds_53 : decode cX5_odds 53 = .ok (.if_icmp .ge 23, 3) := by decide +kernel
theorem dX5_odds_56 : decode cX5_odds 56 = .ok (.lload_n 3, 1) := by decide +kernel
theorem dX5_odds_57 : decode cX5_odds 57 = .ok (.iload 7, 2) := by decide +kernel
theorem dX5_odds_59 : decode cX5_odds 59 = .ok (.i2l, 1) := by decide +kernel
theorem dX5_odds_60 : decode cX5_odds 60 = .ok (.lmul, 1) := by decide +kernel
theorem dX5_odds_61 : decode cX5_odds 61 = .ok (.lstore_n 3, 1) := by decide +kernel
theorem dX5_odds_62 : decode cX5_odds 62 = .ok (.lload 5, 2) := by decide +kernel
theorem dX5_odds_64 : decode cX5_odds 64 = .ok (.ldc2_w 87, 3) := by decide +kernel
theorem dX5_odds_67 : decode cX5_odds 67 = .ok (.lmul, 1) := by decide +kernel
theorem dX5_odds_68 : decode cX5_odds 68 = .ok (.lstore 5, 2) := by decide +kernel
theorem dX5_odds_70 : decode cX5_odds 70 = .ok (.iinc 8 1, 3) := by decide +kernel
theorem dX5_odds_73 : decode cX5_odds 73 = .ok (.goto (-23), 3) := by decide +kernel
theorem dX5_odds_76 : decode cX5_odds 76 = .ok (.lload 5, 2) := by decide +kernel
theorem dX5_odds_78 : decode cX5_odds 78 = .ok (.lstore 8, 2) := by decide +kernel
theorem dX5_odds_80 : decode cX5_odds 80 = .ok (.lload_n 3, 1) := by decide +kernel
theorem dX5_odds_81 : decode cX5_odds 81 = .ok (.lstore 10, 2) := by decide +kernel
theorem dX5_odds_83 : decode cX5_odds 83 = .ok (.lload 10, 2) := by decide +kernel
theorem dX5_odds_85 : decode cX5_odds 85 = .ok (.lconst 0, 1) := by decide +kernel
theorem dX5_odds_86 : decode cX5_odds 86 = .ok (.lcmp, 1) := by decide +kernel
theorem dX5_odds_87 : decode cX5_odds 87 = .ok (.ifCond .eq 21, 3) := by decide +kernel
theorem dX5_odds_90 : decode cX5_odds 90 = .ok (.lload 8, 2) := by decide +kernel
theorem dX5_odds_92 : decode cX5_odds 92 = .ok (.lload 10, 2) := by decide +kernel
theorem dX5_odds_94 : decode cX5_odds 94 = .ok (.lrem, 1) := by decide +kernel
theorem dX5_odds_95 : decode cX5_odds 95 = .ok (.lstore 12, 2) := by decide +kernel
theorem dX5_odds_97 : decode cX5_odds 97 = .ok (.lload 10, 2) := by decide +kernel
theorem dX5_odds_99 : decode cX5_odds 99 = .ok (.lstore 8, 2) := by decide +kernel
theorem dX5_odds_101 : decode cX5_odds 101 = .ok (.lload 12, 2) := by decide +kernel
theorem dX5_odds_103 : decode cX5_odds 103 = .ok (.lstore 10, 2) := by decide +kernel
theorem dX5_odds_105 : decode cX5_odds 105 = .ok (.goto (-22), 3) := by decide +kernel
theorem dX5_odds_108 : decode cX5_odds 108 = .ok (.iload_n 2, 1) := by decide +kernel
theorem dX5_odds_109 : decode cX5_odds 109 = .ok (.ifCond .ne 10, 3) := by decide +kernel
theorem dX5_odds_112 : decode cX5_odds 112 = .ok (.lload_n 3, 1) := by decide +kernel
theorem dX5_odds_113 : decode cX5_odds 113 = .ok (.lload 8, 2) := by decide +kernel
theorem dX5_odds_115 : decode cX5_odds 115 = .ok (.ldiv, 1) := by decide +kernel
theorem dX5_odds_116 : decode cX5_odds 116 = .ok (.goto 8, 3) := by decide +kernel
theorem dX5_odds_119 : decode cX5_odds 119 = .ok (.lload 5, 2) := by decide +kernel
theorem dX5_odds_121 : decode cX5_odds 121 = .ok (.lload 8, 2) := by decide +kernel
theorem dX5_odds_123 : decode cX5_odds 123 = .ok (.ldiv, 1) := by decide +kernel
theorem dX5_odds_124 : decode cX5_odds 124 = .ok (.lreturn, 1) := by decide +kernel
theorem dX5_seed_0 : decode cX5_seed 0 = .ok (.aload_n 0, 1) := by decide +kernel
theorem dX5_seed_1 : decode cX5_seed 1 = .ok (.iconst 2, 1) := by decide +kernel
theorem dX5_seed_2 : decode cX5_seed 2 = .ok (.iload_n 1, 1) := by decide +kernel
theorem dX5_seed_3 : decode cX5_seed 3 = .ok (.invokevirtual 60, 3) := by decide +kernel
theorem dX5_seed_6 : decode cX5_seed 6 = .ok (.ireturn, 1) := by decide +kernel
theorem dX5_feed_0 : decode cX5_feed 0 = .ok (.iload_n 2, 1) := by decide +kernel
theorem dX5_feed_1 : decode cX5_feed 1 = .ok (.i2l, 1) := by decide +kernel
theorem dX5_feed_2 : decode cX5_feed 2 = .ok (.lconst 1, 1) := by decide +kernel
theorem dX5_feed_3 : decode cX5_feed 3 = .ok (.ldc2_w 115, 3) := by decide +kernel
theorem dX5_feed_6 : decode cX5_feed 6 = .ok (.invokestatic 56, 3) := by decide +kernel
theorem dX5_feed_9 : decode cX5_feed 9 = .ok (.ifCond .ne 10, 3) := by decide +kernel
theorem dX5_feed_12 : decode cX5_feed 12 = .ok (.aload_n 0, 1) := by decide +kernel
theorem dX5_feed_13 : decode cX5_feed 13 = .ok (.ldc 40, 2) := by decide +kernel
theorem dX5_feed_15 : decode cX5_feed 15 = .ok (.invokevirtual 46, 3) := by decide +kernel
theorem dX5_feed_18 : decode cX5_feed 18 = .ok (.ireturn, 1) := by decide +kernel
theorem dX5_feed_19 : decode cX5_feed 19 = .ok (.aload_n 0, 1) := by decide +kernel
theorem dX5_feed_20 : decode cX5_feed 20 = .ok (.getfield 212, 3) := by decide +kernel
theorem dX5_feed_23 : decode cX5_feed 23 = .ok (.iload_n 2, 1) := by decide +kernel
theorem dX5_feed_24 : decode cX5_feed 24 = .ok (.iadd, 1) := by decide +kernel
theorem dX5_feed_25 : decode cX5_feed 25 = .ok (.bipush 120, 2) := by decide +kernel
theorem dX5_feed_27 : decode cX5_feed 27 = .ok (.if_icmp .le 10, 3) := by decide +kernel
theorem dX5_feed_30 : decode cX5_feed 30 = .ok (.aload_n 0, 1) := by decide +kernel
theorem dX5_feed_31 : decode cX5_feed 31 = .ok (.ldc 89, 2) := by decide +kernel
theorem dX5_feed_33 : decode cX5_feed 33 = .ok (.invokevirtual 46, 3) := by decide +kernel
theorem dX5_feed_36 : decode cX5_feed 36 = .ok (.ireturn, 1) := by decide +kernel
theorem dX5_feed_37 : decode cX5_feed 37 = .ok (.iload_n 2, 1) := by decide +kernel
theorem dX5_feed_38 : decode cX5_feed 38 = .ok (.iconst 1, 1) := by decide +kernel
theorem dX5_feed_39 : decode cX5_feed 39 = .ok (.isub, 1) := by decide +kernel
theorem dX5_feed_40 : decode cX5_feed 40 = .ok (.istore_n 3, 1) := by decide +kernel
theorem dX5_feed_41 : decode cX5_feed 41 = .ok (.iload_n 3, 1) := by decide +kernel
theorem dX5_feed_42 : decode cX5_feed 42 = .ok (.ifCond .lt 38, 3) := by decide +kernel
theorem dX5_feed_45 : decode cX5_feed 45 = .ok (.aload_n 0, 1) := by decide +kernel
theorem dX5_feed_46 : decode cX5_feed 46 = .ok (.getfield 25, 3) := by decide +kernel
theorem dX5_feed_49 : decode cX5_feed 49 = .ok (.aload_n 0, 1) := by decide +kernel
theorem dX5_feed_50 : decode cX5_feed 50 = .ok (.getfield 212, 3) := by decide +kernel
theorem dX5_feed_53 : decode cX5_feed 53 = .ok (.iload_n 1, 1) := by decide +kernel
