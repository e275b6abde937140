theorem dX4_undo_32 : decode cX4_undo 32 = .ok (.ireturn, 1) := by decide +kernel
theorem dX4_tear_0 : decode cX4_tear 0 = .ok (.aload_n 0, 1) := by decide +kernel
theorem dX4_tear_1 : decode cX4_tear 1 = .ok (.getfield 42, 3) := by decide +kernel
theorem dX4_tear_4 : decode cX4_tear 4 = .ok (.ifCond .eq 7, 3) := by decide +kernel
theorem dX4_tear_7 : decode cX4_tear 7 = .ok (.iconst 1, 1) := by decide +kernel
theorem dX4_tear_8 : decode cX4_tear 8 = .ok (.goto 4, 3) := by decide +kernel
theorem dX4_tear_11 : decode cX4_tear 11 = .ok (.iconst 0, 1) := by decide +kernel
theorem dX4_tear_12 : decode cX4_tear 12 = .ok (.istore_n 1, 1) := by decide +kernel
theorem dX4_tear_13 : decode cX4_tear 13 = .ok (.aload_n 0, 1) := by decide +kernel
theorem dX4_tear_14 : decode cX4_tear 14 = .ok (.iconst 0, 1) := by decide +kernel
theorem dX4_tear_15 : decode cX4_tear 15 = .ok (.putfield 42, 3) := by decide +kernel
theorem dX4_tear_18 : decode cX4_tear 18 = .ok (.iload_n 1, 1) := by decide +kernel
theorem dX4_tear_19 : decode cX4_tear 19 = .ok (.ireturn, 1) := by decide +kernel
theorem dX4_count_0 : decode cX4_count 0 = .ok (.iload_n 1, 1) := by decide +kernel
theorem dX4_count_1 : decode cX4_count 1 = .ok (.tableswitch 111 0 7 #[47, 55, 63, 71, 79, 87, 95, 103], 47) := by decide +kernel
theorem dX4_count_48 : decode cX4_count 48 = .ok (.aload_n 0, 1) := by decide +kernel
theorem dX4_count_49 : decode cX4_count 49 = .ok (.getfield 12, 3) := by decide +kernel
theorem dX4_count_52 : decode cX4_count 52 = .ok (.getfield 126, 3) := by decide +kernel
theorem dX4_count_55 : decode cX4_count 55 = .ok (.ireturn, 1) := by decide +kernel
theorem dX4_count_56 : decode cX4_count 56 = .ok (.aload_n 0, 1) := by decide +kernel
theorem dX4_count_57 : decode cX4_count 57 = .ok (.getfield 12, 3) := by decide +kernel
theorem dX4_count_60 : decode cX4_count 60 = .ok (.getfield 164, 3) := by decide +kernel
theorem dX4_count_63 : decode cX4_count 63 = .ok (.ireturn, 1) := by decide +kernel
theorem dX4_count_64 : decode cX4_count 64 = .ok (.aload_n 0, 1) := by decide +kernel
theorem dX4_count_65 : decode cX4_count 65 = .ok (.getfield 12, 3) := by decide +kernel
theorem dX4_count_68 : decode cX4_count 68 = .ok (.invokevirtual 136, 3) := by decide +kernel
theorem dX4_count_71 : decode cX4_count 71 = .ok (.ireturn, 1) := by decide +kernel
theorem dX4_count_72 : decode cX4_count 72 = .ok (.aload_n 0, 1) := by decide +kernel
theorem dX4_count_73 : decode cX4_count 73 = .ok (.getfield 12, 3) := by decide +kernel
theorem dX4_count_76 : decode cX4_count 76 = .ok (.invokevirtual 143, 3) := by decide +kernel
theorem dX4_count_79 : decode cX4_count 79 = .ok (.ireturn, 1) := by decide +kernel
theorem dX4_count_80 : decode cX4_count 80 = .ok (.aload_n 0, 1) := by decide +kernel
theorem dX4_count_81 : decode cX4_count 81 = .ok (.getfield 12, 3) := by decide +kernel
theorem dX4_count_84 : decode cX4_count 84 = .ok (.invokevirtual 140, 3) := by decide +kernel
theorem dX4_count_87 : decode cX4_count 87 = .ok (.ireturn, 1) := by decide +kernel
theorem dX4_count_88 : decode cX4_count 88 = .ok (.aload_n 0, 1) := by decide +kernel
theorem dX4_count_89 : decode cX4_count 89 = .ok (.getfield 28, 3) := by decide +kernel
theorem dX4_count_92 : decode cX4_count 92 = .ok (.getfield 210, 3) := by decide +kernel
theorem dX4_count_95 : decode cX4_count 95 = .ok (.ireturn, 1) := by decide +kernel
theorem dX4_count_96 : decode cX4_count 96 = .ok (.aload_n 0, 1) := by decide +kernel
theorem dX4_count_97 : decode cX4_count 97 = .ok (.getfield 12, 3) := by decide +kernel
theorem dX4_count_100 : decode cX4_count 100 = .ok (.getfield 207, 3) := by decide +kernel
theorem dX4_count_103 : decode cX4_count 103 = .ok (.ireturn, 1) := by decide +kernel
theorem dX4_count_104 : decode cX4_count 104 = .ok (.aload_n 0, 1) := by decide +kernel
theorem dX4_count_105 : decode cX4_count 105 = .ok (.getfield 12, 3) := by decide +kernel
theorem dX4_count_108 : decode cX4_count 108 = .ok (.invokevirtual 263, 3) := by decide +kernel
theorem dX4_count_111 : decode cX4_count 111 = .ok (.ireturn, 1) := by decide +kernel
theorem dX4_count_112 : decode cX4_count 112 = .ok (.aload_n 0, 1) := by decide +kernel
theorem dX4_count_113 : decode cX4_count 113 = .ok (.ldc 57, 2) := by decide +kernel
theorem dX4_count_115 : decode cX4_count 115 = .ok (.invokevirtual 58, 3) := by decide +kernel
theorem dX4_count_118 : decode cX4_count 118 = .ok (.ireturn, 1) := by decide +kernel
theorem dX4_status_0 : decode cX4_status 0 = .ok (.iload_n 1, 1) := by decide +kernel
theorem dX4_status_1 : decode cX4_status 1 = .ok (.iconst (-1), 1) := by decide +kernel
theorem dX4_status_2 : decode cX4_status 2 = .ok (.if_icmp .ne 30, 3) := by decide +kernel
theorem dX4_status_5 : decode cX4_status 5 = .ok (.iconst 0, 1) := by decide +kernel
theorem dX4_status_6 : decode cX4_status 6 = .ok (.istore_n 2, 1) := by decide +kernel
theorem dX4_status_7 : decode cX4_status 7 = .ok (.iconst 0, 1) := by decide +kernel
theorem dX4_status_8 : decode cX4_status 8 = .ok (.istore_n 3, 1) := by decide +kernel
theorem dX4_status_9 : decode cX4_status 9 = .ok (.iload_n 3, 1) := by decide +kernel
theorem dX4_status_10 : decode cX4_status 10 = .ok (.bipush 7, 2) := by decide +kernel
theorem dX4_status_12 : decode cX4_status 12 = .ok (.if_icmp .ge 18, 3) := by decide +kernel
theorem dX4_status_15 : decode cX4_status 15 = .ok (.iload_n 2, 1) := by decide +kernel
theorem dX4_status_16 : decode cX4_status 16 = .ok (.aload_n 0, 1) := by decide +kernel
theorem dX4_status_17 : decode cX4_status 17 = .ok (.getfield 38, 3) := by decide +kernel
theorem dX4_status_20 : decode cX4_status 20 = .ok (.iload_n 3, 1) := by decide +kernel
theorem dX4_status_21 : decode cX4_status 21 = .ok (.iaload, 1) := by decide +kernel
theorem dX4_status_22 : decode cX4_status 22 = .ok (.iadd, 1) := by decide +kernel
theorem dX4_status_23 : decode cX4_status 23 = .ok (.istore_n 2, 1) := by decide +kernel
theorem dX4_status_24 : decode cX4_status 24 = .ok (.iinc 3 1, 3) := by decide +kernel
theorem dX4_status_27 : decode cX4_status 27 = .ok (.goto (-18), 3) := by decide +kernel
theorem dX4_status_30 : decode cX4_status 30 = .ok (.iload_n 2, 1) := by decide +kernel
theorem dX4_status_31 : decode cX4_status 31 = .ok (.ireturn, 1) := by decide +kernel
theorem dX4_status_32 : decode cX4_status 32 = .ok (.iload_n 1, 1) := by decide +kernel
theorem dX4_status_33 : decode cX4_status 33 = .ok (.iconst 0, 1) := by decide +kernel
theorem dX4_status_34 : decode cX4_status 34 = .ok (.bipush 6, 2) := by decide +kernel
theorem dX4_status_36 : decode cX4_status 36 = .ok (.invokestatic 99, 3) := by decide +kernel
theorem dX4_status_39 : decode cX4_status 39 = .ok (.ifCond .eq 12, 3) := by decide +kernel
theorem dX4_status_42 : decode cX4_status 42 = .ok (.aload_n 0, 1) := by decide +kernel
theorem dX4_status_43 : decode cX4_status 43 = .ok (.getfield 38, 3) := by decide +kernel
theorem dX4_status_46 : decode cX4_status 46 = .ok (.iload_n 1, 1) := by decide +kernel
theorem dX4_status_47 : decode cX4_status 47 = .ok (.iaload, 1) := by decide +kernel
theorem dX4_status_48 : decode cX4_status 48 = .ok (.goto 9, 3) := by decide +kernel
theorem dX4_status_51 : decode cX4_status 51 = .ok (.aload_n 0, 1) := by decide +kernel
theorem dX4_status_52 : decode cX4_status 52 = .ok (.ldc 57, 2) := by decide +kernel
theorem dX4_status_54 : decode cX4_status 54 = .ok (.invokevirtual 58, 3) := by decide +kernel
theorem dX4_status_57 : decode cX4_status 57 = .ok (.ireturn, 1) := by decide +kernel
theorem dX4_finding_0 : decode cX4_finding 0 = .ok (.aload_n 0, 1) := by decide +kernel
theorem dX4_finding_1 : decode cX4_finding 1 = .ok (.getfield 38, 3) := by decide +kernel
theorem dX4_finding_4 : decode cX4_finding 4 = .ok (.ldc 57, 2) := by decide +kernel
theorem dX4_finding_6 : decode cX4_finding 6 = .ok (.iload_n 1, 1) := by decide +kernel
theorem dX4_finding_7 : decode cX4_finding 7 = .ok (.isub, 1) := by decide +kernel
theorem dX4_finding_8 : decode cX4_finding 8 = .ok (.dup2, 1) := by decide +kernel
theorem dX4_finding_9 : decode cX4_finding 9 = .ok (.iaload, 1) := by decide +kernel
theorem dX4_finding_10 : decode cX4_finding 10 = .ok (.iconst 1, 1) := by decide +kernel
theorem dX4_finding_11 : decode cX4_finding 11 = .ok (.iadd, 1) := by decide +kernel
theorem dX4_finding_12 : decode cX4_finding 12 = .ok (.iastore, 1) := by decide +kernel
theorem dX4_finding_13 : decode cX4_finding 13 = .ok (.iload_n 1, 1) := by decide +kernel
theorem dX4_finding_14 : decode cX4_finding 14 = .ok (.ireturn, 1) := by decide +kernel
theorem dX4_within_0 : decode cX4_within 0 = .ok (.iload_n 0, 1) := by decide +kernel
theorem dX4_within_1 : decode cX4_within 1 = .ok (.iload_n 1, 1) := by decide +kernel
theorem dX4_within_2 : decode cX4_within 2 = .ok (.if_icmp .lt 12, 3) := by decide +kernel
theorem dX4_within_5 : decode cX4_within 5 = .ok (.iload_n 0, 1) := by decide +kernel
theorem dX4_within_6 : decode cX4_within 6 = .ok (.iload_n 2, 1) := by decide +kernel
theorem dX4_within_7 : decode cX4_within 7 = .ok (.if_icmp .gt 7, 3) := by decide +kernel
theorem dX4_within_10 : decode cX4_within 10 = .ok (.iconst 1, 1) := by decide +kernel
theorem dX4_within_11 : decode cX4_within 11 = .ok (.goto 4, 3) := by decide +kernel
theorem dX4_within_14 : decode cX4_within 14 = .ok (.iconst 0, 1) := by decide +kernel
theorem dX4_within_15 : decode cX4_within 15 = .ok (.ireturn, 1) := by decide +kernel
theorem dX4_isPage_0 : decode cX4_isPage 0 = .ok (.iload_n 0, 1) := by decide +kernel
theorem dX4_isPage_1 : decode cX4_isPage 1 = .ok (.iconst 0, 1) := by decide +kernel
theorem dX4_isPage_2 : decode cX4_isPage 2 = .ok (.iconst 5, 1) := by decide +kernel
theorem dX4_isPage_3 : decode cX4_isPage 3 = .ok (.invokestatic 99, 3) := by decide +kernel
theorem dX4_isPage_6 : decode cX4_isPage 6 = .ok (.ireturn, 1) := by decide +kernel
theorem dX4_isPlace_0 : decode cX4_isPlace 0 = .ok (.iload_n 0, 1) := by decide +kernel
theorem dX4_isPlace_1 : decode cX4_isPlace 1 = .ok (.iconst 0, 1) := by decide +kernel
theorem dX4_isPlace_2 : decode cX4_isPlace 2 = .ok (.bipush 7, 2) := by decide +kernel
theorem dX4_isPlace_4 : decode cX4_isPlace 4 = .ok (.invokestatic 99, 3) := by decide +kernel
theorem dX4_isPlace_7 : decode cX4_isPlace 7 = .ok (.ireturn, 1) := by decide +kernel
theorem dX4_isWord_0 : decode cX4_isWord 0 = .ok (.iload_n 0, 1) := by decide +kernel
theorem dX4_isWord_1 : decode cX4_isWord 1 = .ok (.iconst 0, 1) := by decide +kernel
theorem dX4_isWord_2 : decode cX4_isWord 2 = .ok (.bipush 9, 2) := by decide +kernel
theorem dX4_isWord_4 : decode cX4_isWord 4 = .ok (.invokestatic 99, 3) := by decide +kernel
theorem dX4_isWord_7 : decode cX4_isWord 7 = .ok (.ireturn, 1) := by decide +kernel
theorem dX4_isKind_0 : decode cX4_isKind 0 = .ok (.iload_n 0, 1) := by decide +kernel
theorem dX4_isKind_1 : decode cX4_isKind 1 = .ok (.iconst 0, 1) := by decide +kernel
theorem dX4_isKind_2 : decode cX4_isKind 2 = .ok (.bipush 6, 2) := by decide +kernel
theorem dX4_isKind_4 : decode cX4_isKind 4 = .ok (.invokestatic 99, 3) := by decide +kernel
theorem dX4_isKind_7 : decode cX4_isKind 7 = .ok (.ireturn, 1) := by decide +kernel
theorem dX4_isSpot_0 : decode cX4_isSpot 0 = .ok (.iload_n 0, 1) := by decide +kernel
theorem dX4_isSpot_1 : decode cX4_isSpot 1 = .ok (.iconst 0, 1) := by decide +kernel
theorem dX4_isSpot_2 : decode cX4_isSpot 2 = .ok (.bipush 9, 2) := by decide +kernel
theorem dX4_isSpot_4 : decode cX4_isSpot 4 = .ok (.invokestatic 99, 3) := by decide +kernel
theorem dX4_isSpot_7 : decode cX4_isSpot 7 = .ok (.ireturn, 1) := by decide +kernel
theorem dX4_isSheet_0 : decode cX4_isSheet 0 = .ok (.iload_n 0, 1) := by decide +kernel
theorem dX4_isSheet_1 : decode cX4_isSheet 1 = .ok (.iconst 0, 1) := by decide +kernel
theorem dX4_isSheet_2 : decode cX4_isSheet 2 = .ok (.iconst 3, 1) := by decide +kernel
theorem dX4_isSheet_3 : decode cX4_isSheet 3 = .ok (.invokestatic 99, 3) := by decide +kernel
theorem dX4_isSheet_6 : decode cX4_isSheet 6 = .ok (.ireturn, 1) := by decide +kernel
theorem dX4_isMoth_0 : decode cX4_isMoth 0 = .ok (.iload_n 1, 1) := by decide +kernel
theorem dX4_isMoth_1 : decode cX4_isMoth 1 = .ok (.iconst 0, 1) := by decide +kernel
theorem dX4_isMoth_2 : decode cX4_isMoth 2 = .ok (.aload_n 0, 1) := by decide +kernel
theorem dX4_isMoth_3 : decode cX4_isMoth 3 = .ok (.getfield 12, 3) := by decide +kernel
theorem dX4_isMoth_6 : decode cX4_isMoth 6 = .ok (.getfield 164, 3) := by decide +kernel
theorem dX4_isMoth_9 : decode cX4_isMoth 9 = .ok (.iconst 1, 1) := by decide +kernel
theorem dX4_isMoth_10 : decode cX4_isMoth 10 = .ok (.isub, 1) := by decide +kernel
theorem dX4_isMoth_11 : decode cX4_isMoth 11 = .ok (.invokestatic 99, 3) := by decide +kernel
theorem dX4_isMoth_14 : decode cX4_isMoth 14 = .ok (.ireturn, 1) := by decide +kernel
theorem dX4_lookAhead_0 : decode cX4_lookAhead 0 = .ok (.aload_n 0, 1) := by decide +kernel
theorem dX4_lookAhead_1 : decode cX4_lookAhead 1 = .ok (.getfield 19, 3) := by decide +kernel
theorem dX4_lookAhead_4 : decode cX4_lookAhead 4 = .ok (.aload_n 0, 1) := by decide +kernel
theorem dX4_lookAhead_5 : decode cX4_lookAhead 5 = .ok (.getfield 12, 3) := by decide +kernel
theorem dX4_lookAhead_8 : decode cX4_lookAhead 8 = .ok (.invokevirtual 168, 3) := by decide +kernel
theorem dX4_lookAhead_11 : decode cX4_lookAhead 11 = .ok (.aload_n 0, 1) := by decide +kernel
theorem dX4_lookAhead_12 : decode cX4_lookAhead 12 = .ok (.getfield 19, 3) := by decide +kernel
theorem dX4_lookAhead_15 : decode cX4_lookAhead 15 = .ok (.iload_n 1, 1) := by decide +kernel
theorem dX4_lookAhead_16 : decode cX4_lookAhead 16 = .ok (.iconst 0, 1) := by decide +kernel
theorem dX4_lookAhead_17 : decode cX4_lookAhead 17 = .ok (.invokevirtual 132, 3) := by decide +kernel
theorem dX4_lookAhead_20 : decode cX4_lookAhead 20 = .ok (.return_, 1) := by decide +kernel
theorem dX4_fewestNights_0 : decode cX4_fewestNights 0 = .ok (.aload_n 0, 1) := by decide +kernel
theorem dX4_fewestNights_1 : decode cX4_fewestNights 1 = .ok (.getfield 19, 3) := by decide +kernel
theorem dX4_fewestNights_4 : decode cX4_fewestNights 4 = .ok (.aload_n 0, 1) := by decide +kernel
theorem dX4_fewestNights_5 : decode cX4_fewestNights 5 = .ok (.getfield 12, 3) := by decide +kernel
theorem dX4_fewestNights_8 : decode cX4_fewestNights 8 = .ok (.invokevirtual 168, 3) := by decide +kernel
theorem dX4_fewestNights_11 : decode cX4_fewestNights 11 = .ok (.iconst 0, 1) := by decide +kernel
theorem dX4_fewestNights_12 : decode cX4_fewestNights 12 = .ok (.istore 4, 2) := by decide +kernel
theorem dX4_fewestNights_14 : decode cX4_fewestNights 14 = .ok (.iload 4, 2) := by decide +kernel
theorem dX4_fewestNights_16 : decode cX4_fewestNights 16 = .ok (.sipush 200, 3) := by decide +kernel
theorem dX4_fewestNights_19 : decode cX4_fewestNights 19 = .ok (.if_icmp .gt 53, 3) := by decide +kernel
theorem dX4_fewestNights_22 : decode cX4_fewestNights 22 = .ok (.aload_n 0, 1) := by decide +kernel
theorem dX4_fewestNights_23 : decode cX4_fewestNights 23 = .ok (.getfield 22, 3) := by decide +kernel
theorem dX4_fewestNights_26 : decode cX4_fewestNights 26 = .ok (.aload_n 0, 1) := by decide +kernel
theorem dX4_fewestNights_27 : decode cX4_fewestNights 27 = .ok (.getfield 19, 3) := by decide +kernel
theorem dX4_fewestNights_30 : decode cX4_fewestNights 30 = .ok (.invokevirtual 168, 3) := by decide +kernel
theorem dX4_fewestNights_33 : decode cX4_fewestNights 33 = .ok (.aload_n 0, 1) := by decide +kernel
theorem dX4_fewestNights_34 : decode cX4_fewestNights 34 = .ok (.getfield 22, 3) := by decide +kernel
theorem dX4_fewestNights_37 : decode cX4_fewestNights 37 = .ok (.iconst 1, 1) := by decide +kernel
theorem dX4_fewestNights_38 : decode cX4_fewestNights 38 = .ok (.iconst 0, 1) := by decide +kernel
theorem dX4_fewestNights_39 : decode cX4_fewestNights 39 = .ok (.invokevirtual 132, 3) := by decide +kernel
theorem dX4_fewestNights_42 : decode cX4_fewestNights 42 = .ok (.aload_n 0, 1) := by decide +kernel
theorem dX4_fewestNights_43 : decode cX4_fewestNights 43 = .ok (.iload_n 1, 1) := by decide +kernel
theorem dX4_fewestNights_44 : decode cX4_fewestNights 44 = .ok (.iload_n 2, 1) := by decide +kernel
theorem dX4_fewestNights_45 : decode cX4_fewestNights 45 = .ok (.iload_n 3, 1) := by decide +kernel
theorem dX4_fewestNights_46 : decode cX4_fewestNights 46 = .ok (.invokevirtual 266, 3) := by decide +kernel
theorem dX4_fewestNights_49 : decode cX4_fewestNights 49 = .ok (.ifCond .eq 6, 3) := by decide +kernel
theorem dX4_fewestNights_52 : decode cX4_fewestNights 52 = .ok (.iload 4, 2) := by decide +kernel
theorem dX4_fewestNights_54 : decode cX4_fewestNights 54 = .ok (.ireturn, 1) := by decide +kernel
theorem dX4_fewestNights_55 : decode cX4_fewestNights 55 = .ok (.aload_n 0, 1) := by decide +kernel
theorem dX4_fewestNights_56 : decode cX4_fewestNights 56 = .ok (.getfield 19, 3) := by decide +kernel
theorem dX4_fewestNights_59 : decode cX4_fewestNights 59 = .ok (.aload_n 0, 1) := by decide +kernel
theorem dX4_fewestNights_60 : decode cX4_fewestNights 60 = .ok (.getfield 22, 3) := by decide +kernel
theorem dX4_fewestNights_63 : decode cX4_fewestNights 63 = .ok (.invokevirtual 168, 3) := by decide +kernel
theorem dX4_fewestNights_66 : decode cX4_fewestNights 66 = .ok (.iinc 4 1, 3) := by decide +kernel
theorem dX4_fewestNights_69 : decode cX4_fewestNights 69 = .ok (.goto (-55), 3) := by decide +kernel
theorem dX4_fewestNights_72 : decode cX4_fewestNights 72 = .ok (.aload_n 0, 1) := by decide +kernel
theorem dX4_fewestNights_73 : decode cX4_fewestNights 73 = .ok (.ldc 167, 2) := by decide +kernel
theorem dX4_fewestNights_75 : decode cX4_fewestNights 75 = .ok (.invokevirtual 58, 3) := by decide +kernel
theorem dX4_fewestNights_78 : decode cX4_fewestNights 78 = .ok (.ireturn, 1) := by decide +kernel
theorem dX4_hasCome_0 : decode cX4_hasCome 0 = .ok (.iload_n 1, 1) := by decide +kernel
theorem dX4_hasCome_1 : decode cX4_hasCome 1 = .ok (.tableswitch 66 0 2 #[27, 36, 54], 27) := by decide +kernel
theorem dX4_hasCome_28 : decode cX4_hasCome 28 = .ok (.aload_n 0, 1) := by decide +kernel
theorem dX4_hasCome_29 : decode cX4_hasCome 29 = .ok (.getfield 19, 3) := by decide +kernel
theorem dX4_hasCome_32 : decode cX4_hasCome 32 = .ok (.iload_n 2, 1) := by decide +kernel
theorem dX4_hasCome_33 : decode cX4_hasCome 33 = .ok (.invokevirtual 269, 3) := by decide +kernel
theorem dX4_hasCome_36 : decode cX4_hasCome 36 = .ok (.ireturn, 1) := by decide +kernel
theorem dX4_hasCome_37 : decode cX4_hasCome 37 = .ok (.aload_n 0, 1) := by decide +kernel
theorem dX4_hasCome_38 : decode cX4_hasCome 38 = .ok (.getfield 19, 3) := by decide +kernel
theorem dX4_hasCome_41 : decode cX4_hasCome 41 = .ok (.iload_n 2, 1) := by decide +kernel
theorem dX4_hasCome_42 : decode cX4_hasCome 42 = .ok (.invokevirtual 70, 3) := by decide +kernel
theorem dX4_hasCome_45 : decode cX4_hasCome 45 = .ok (.iload_n 3, 1) := by decide +kernel
theorem dX4_hasCome_46 : decode cX4_hasCome 46 = .ok (.if_icmp .ne 7, 3) := by decide +kernel
theorem dX4_hasCome_49 : decode cX4_hasCome 49 = .ok (.iconst 1, 1) := by decide +kernel
theorem dX4_hasCome_50 : decode cX4_hasCome 50 = .ok (.goto 4, 3) := by decide +kernel
theorem dX4_hasCome_53 : decode cX4_hasCome 53 = .ok (.iconst 0, 1) := by decide +kernel
theorem dX4_hasCome_54 : decode cX4_hasCome 54 = .ok (.ireturn, 1) := by decide +kernel
theorem dX4_hasCome_55 : decode cX4_hasCome 55 = .ok (.aload_n 0, 1) := by decide +kernel
theorem dX4_hasCome_56 : decode cX4_hasCome 56 = .ok (.getfield 22, 3) := by decide +kernel
theorem dX4_hasCome_59 : decode cX4_hasCome 59 = .ok (.aload_n 0, 1) := by decide +kernel
theorem dX4_hasCome_60 : decode cX4_hasCome 60 = .ok (.getfield 19, 3) := by decide +kernel
theorem dX4_hasCome_63 : decode cX4_hasCome 63 = .ok (.invokevirtual 272, 3) := by decide +kernel
theorem dX4_hasCome_66 : decode cX4_hasCome 66 = .ok (.ireturn, 1) := by decide +kernel
theorem dX4_hasCome_67 : decode cX4_hasCome 67 = .ok (.aload_n 0, 1) := by decide +kernel
theorem dX4_hasCome_68 : decode cX4_hasCome 68 = .ok (.getfield 19, 3) := by decide +kernel
theorem dX4_hasCome_71 : decode cX4_hasCome 71 = .ok (.iload_n 2, 1) := by decide +kernel
theorem dX4_hasCome_72 : decode cX4_hasCome 72 = .ok (.iload_n 3, 1) := by decide +kernel
theorem dX4_hasCome_73 : decode cX4_hasCome 73 = .ok (.invokevirtual 276, 3) := by decide +kernel
theorem dX4_hasCome_76 : decode cX4_hasCome 76 = .ok (.ifCond .ne 7, 3) := by decide +kernel
theorem dX4_hasCome_79 : decode cX4_hasCome 79 = .ok (.iconst 1, 1) := by decide +kernel
theorem dX4_hasCome_80 : decode cX4_hasCome 80 = .ok (.goto 4, 3) := by decide +kernel
theorem dX4_hasCome_83 : decode cX4_hasCome 83 = .ok (.iconst 0, 1) := by decide +kernel
theorem dX4_hasCome_84 : decode cX4_hasCome 84 = .ok (.ireturn, 1) := by decide +kernel
theorem dX4_bestTrait_0 : decode cX4_bestTrait 0 = .ok (.aload_n 0, 1) := by decide +kernel
theorem dX4_bestTrait_1 : decode cX4_bestTrait 1 = .ok (.iload_n 1, 1) := by decide +kernel
theorem dX4_bestTrait_2 : decode cX4_bestTrait 2 = .ok (.invokevirtual 96, 3) := by decide +kernel
theorem dX4_bestTrait_5 : decode cX4_bestTrait 5 = .ok (.ifCond .eq 21, 3) := by decide +kernel
theorem dX4_bestTrait_8 : decode cX4_bestTrait 8 = .ok (.iload_n 3, 1) := by decide +kernel
theorem dX4_bestTrait_9 : decode cX4_bestTrait 9 = .ok (.invokestatic 47, 3) := by decide +kernel
theorem dX4_bestTrait_12 : decode cX4_bestTrait 12 = .ok (.ifCond .eq 14, 3) := by decide +kernel
theorem dX4_bestTrait_15 : decode cX4_bestTrait 15 = .ok (.iload 4, 2) := by decide +kernel
theorem dX4_bestTrait_17 : decode cX4_bestTrait 17 = .ok (.iconst 0, 1) := by decide +kernel
theorem dX4_bestTrait_18 : decode cX4_bestTrait 18 = .ok (.bipush 40, 2) := by decide +kernel
theorem dX4_bestTrait_20 : decode cX4_bestTrait 20 = .ok (.invokestatic 99, 3) := by decide +kernel
theorem dX4_bestTrait_23 : decode cX4_bestTrait 23 = .ok (.ifCond .ne 10, 3) := by decide +kernel
theorem dX4_bestTrait_26 : decode cX4_bestTrait 26 = .ok (.aload_n 0, 1) := by decide +kernel
theorem dX4_bestTrait_27 : decode cX4_bestTrait 27 = .ok (.ldc 57, 2) := by decide +kernel
theorem dX4_bestTrait_29 : decode cX4_bestTrait 29 = .ok (.invokevirtual 58, 3) := by decide +kernel
theorem dX4_bestTrait_32 : decode cX4_bestTrait 32 = .ok (.ireturn, 1) := by decide +kernel
theorem dX4_bestTrait_33 : decode cX4_bestTrait 33 = .ok (.getstatic 109, 3) := by decide +kernel
theorem dX4_bestTrait_36 : decode cX4_bestTrait 36 = .ok (.iload_n 2, 1) := by decide +kernel
theorem dX4_bestTrait_37 : decode cX4_bestTrait 37 = .ok (.iaload, 1) := by decide +kernel
theorem dX4_bestTrait_38 : decode cX4_bestTrait 38 = .ok (.istore 5, 2) := by decide +kernel
theorem dX4_bestTrait_40 : decode cX4_bestTrait 40 = .ok (.iconst (-1), 1) := by decide +kernel
theorem dX4_bestTrait_41 : decode cX4_bestTrait 41 = .ok (.istore 6, 2) := by decide +kernel
theorem dX4_bestTrait_43 : decode cX4_bestTrait 43 = .ok (.getstatic 109, 3) := by decide +kernel
theorem dX4_bestTrait_46 : decode cX4_bestTrait 46 = .ok (.iload_n 2, 1) := by decide +kernel
theorem dX4_bestTrait_47 : decode cX4_bestTrait 47 = .ok (.iaload, 1) := by decide +kernel
theorem dX4_bestTrait_48 : decode cX4_bestTrait 48 = .ok (.istore 7, 2) := by decide +kernel
theorem dX4_bestTrait_50 : decode cX4_bestTrait 50 = .ok (.iload 7, 2) := by decide +kernel
theorem dX4_bestTrait_52 : decode cX4_bestTrait 52 = .ok (.getstatic 112, 3) := by decide +kernel
theorem dX4_bestTrait_55 : decode cX4_bestTrait 55 = .ok (.iload_n 2, 1) := by decide +kernel
theorem dX4_bestTrait_56 : decode cX4_bestTrait 56 = .ok (.iaload, 1) := by decide +kernel
theorem dX4_bestTrait_57 : decode cX4_bestTrait 57 = .ok (.if_icmp .gt 66, 3) := by decide +kernel
theorem dX4_bestTrait_60 : decode cX4_bestTrait 60 = .ok (.aload_n 0, 1) := by decide +kernel
theorem dX4_bestTrait_61 : decode cX4_bestTrait 61 = .ok (.getfield 19, 3) := by decide +kernel
theorem dX4_bestTrait_64 : decode cX4_bestTrait 64 = .ok (.aload_n 0, 1) := by decide +kernel
theorem dX4_bestTrait_65 : decode cX4_bestTrait 65 = .ok (.getfield 12, 3) := by decide +kernel
theorem dX4_bestTrait_68 : decode cX4_bestTrait 68 = .ok (.invokevirtual 168, 3) := by decide +kernel
theorem dX4_bestTrait_71 : decode cX4_bestTrait 71 = .ok (.aload_n 0, 1) := by decide +kernel
theorem dX4_bestTrait_72 : decode cX4_bestTrait 72 = .ok (.getfield 19, 3) := by decide +kernel
theorem dX4_bestTrait_75 : decode cX4_bestTrait 75 = .ok (.iload_n 1, 1) := by decide +kernel
theorem dX4_bestTrait_76 : decode cX4_bestTrait 76 = .ok (.iload_n 2, 1) := by decide +kernel
theorem dX4_bestTrait_77 : decode cX4_bestTrait 77 = .ok (.iload 7, 2) := by decide +kernel
theorem dX4_bestTrait_79 : decode cX4_bestTrait 79 = .ok (.invokevirtual 115, 3) := by decide +kernel
theorem dX4_bestTrait_82 : decode cX4_bestTrait 82 = .ok (.aload_n 0, 1) := by decide +kernel
theorem dX4_bestTrait_83 : decode cX4_bestTrait 83 = .ok (.getfield 19, 3) := by decide +kernel
theorem dX4_bestTrait_86 : decode cX4_bestTrait 86 = .ok (.iload 4, 2) := by decide +kernel
theorem dX4_bestTrait_88 : decode cX4_bestTrait 88 = .ok (.iconst 0, 1) := by decide +kernel
theorem dX4_bestTrait_89 : decode cX4_bestTrait 89 = .ok (.invokevirtual 132, 3) := by decide +kernel
theorem dX4_bestTrait_92 : decode cX4_bestTrait 92 = .ok (.aload_n 0, 1) := by decide +kernel
theorem dX4_bestTrait_93 : decode cX4_bestTrait 93 = .ok (.getfield 19, 3) := by decide +kernel
theorem dX4_bestTrait_96 : decode cX4_bestTrait 96 = .ok (.iload_n 3, 1) := by decide +kernel
theorem dX4_bestTrait_97 : decode cX4_bestTrait 97 = .ok (.invokevirtual 70, 3) := by decide +kernel
theorem dX4_bestTrait_100 : decode cX4_bestTrait 100 = .ok (.istore 8, 2) := by decide +kernel
theorem dX4_bestTrait_102 : decode cX4_bestTrait 102 = .ok (.iload 8, 2) := by decide +kernel
theorem dX4_bestTrait_104 : decode cX4_bestTrait 104 = .ok (.iload 6, 2) := by decide +kernel
theorem dX4_bestTrait_106 : decode cX4_bestTrait 106 = .ok (.if_icmp .le 11, 3) := by decide +kernel
theorem dX4_bestTrait_109 : decode cX4_bestTrait 109 = .ok (.iload 8, 2) := by decide +kernel
theorem dX4_bestTrait_111 : decode cX4_bestTrait 111 = .ok (.istore 6, 2) := by decide +kernel
theorem dX4_bestTrait_113 : decode cX4_bestTrait 113 = .ok (.iload 7, 2) := by decide +kernel
theorem dX4_bestTrait_115 : decode cX4_bestTrait 115 = .ok (.istore 5, 2) := by decide +kernel
theorem dX4_bestTrait_117 : decode cX4_bestTrait 117 = .ok (.iinc 7 1, 3) := by decide +kernel
theorem dX4_bestTrait_120 : decode cX4_bestTrait 120 = .ok (.goto (-70), 3) := by decide +kernel
theorem dX4_bestTrait_123 : decode cX4_bestTrait 123 = .ok (.iload 5, 2) := by decide +kernel
theorem dX4_bestTrait_125 : decode cX4_bestTrait 125 = .ok (.ireturn, 1) := by decide +kernel
theorem dX4_staysWithout_0 : decode cX4_staysWithout 0 = .ok (.aload_n 0, 1) := by decide +kernel
theorem dX4_staysWithout_1 : decode cX4_staysWithout 1 = .ok (.getfield 19, 3) := by decide +kernel
theorem dX4_staysWithout_4 : decode cX4_staysWithout 4 = .ok (.aload_n 0, 1) := by decide +kernel
theorem dX4_staysWithout_5 : decode cX4_staysWithout 5 = .ok (.getfield 12, 3) := by decide +kernel
theorem dX4_staysWithout_8 : decode cX4_staysWithout 8 = .ok (.invokevirtual 168, 3) := by decide +kernel
theorem dX4_staysWithout_11 : decode cX4_staysWithout 11 = .ok (.aload_n 0, 1) := by decide +kernel
theorem dX4_staysWithout_12 : decode cX4_staysWithout 12 = .ok (.getfield 19, 3) := by decide +kernel
theorem dX4_staysWithout_15 : decode cX4_staysWithout 15 = .ok (.iload_n 3, 1) := by decide +kernel
theorem dX4_staysWithout_16 : decode cX4_staysWithout 16 = .ok (.iload_n 1, 1) := by decide +kernel
theorem dX4_staysWithout_17 : decode cX4_staysWithout 17 = .ok (.invokevirtual 132, 3) := by decide +kernel
theorem dX4_staysWithout_20 : decode cX4_staysWithout 20 = .ok (.aload_n 0, 1) := by decide +kernel
theorem dX4_staysWithout_21 : decode cX4_staysWithout 21 = .ok (.getfield 19, 3) := by decide +kernel
theorem dX4_staysWithout_24 : decode cX4_staysWithout 24 = .ok (.aload_n 0, 1) := by decide +kernel
theorem dX4_staysWithout_25 : decode cX4_staysWithout 25 = .ok (.getfield 12, 3) := by decide +kernel
theorem dX4_staysWithout_28 : decode cX4_staysWithout 28 = .ok (.iload_n 2, 1) := by decide +kernel
theorem dX4_staysWithout_29 : decode cX4_staysWithout 29 = .ok (.invokevirtual 279, 3) := by decide +kernel
theorem dX4_staysWithout_32 : decode cX4_staysWithout 32 = .ok (.ireturn, 1) := by decide +kernel
theorem dX4_isPageAsTold_0 : decode cX4_isPageAsTold 0 = .ok (.aload_n 1, 1) := by decide +kernel
theorem dX4_isPageAsTold_1 : decode cX4_isPageAsTold 1 = .ok (.getfield 239, 3) := by decide +kernel
theorem dX4_isPageAsTold_4 : decode cX4_isPageAsTold 4 = .ok (.bipush 8, 2) := by decide +kernel
theorem dX4_isPageAsTold_6 : decode cX4_isPageAsTold 6 = .ok (.invokestatic 258, 3) := by decide +kernel
theorem dX4_isPageAsTold_9 : decode cX4_isPageAsTold 9 = .ok (.istore_n 3, 1) := by decide +kernel
theorem dX4_isPageAsTold_10 : decode cX4_isPageAsTold 10 = .ok (.iconst 0, 1) := by decide +kernel
theorem dX4_isPageAsTold_11 : decode cX4_isPageAsTold 11 = .ok (.istore 4, 2) := by decide +kernel
theorem dX4_isPageAsTold_13 : decode cX4_isPageAsTold 13 = .ok (.iload 4, 2) := by decide +kernel
theorem dX4_isPageAsTold_15 : decode cX4_isPageAsTold 15 = .ok (.iload_n 3, 1) := by decide +kernel
theorem dX4_isPageAsTold_16 : decode cX4_isPageAsTold 16 = .ok (.if_icmp .ge 42, 3) := by decide +kernel
theorem dX4_isPageAsTold_19 : decode cX4_isPageAsTold 19 = .ok (.aload_n 1, 1) := by decide +kernel
theorem dX4_isPageAsTold_20 : decode cX4_isPageAsTold 20 = .ok (.getfield 249, 3) := by decide +kernel
theorem dX4_isPageAsTold_23 : decode cX4_isPageAsTold 23 = .ok (.iload 4, 2) := by decide +kernel
theorem dX4_isPageAsTold_25 : decode cX4_isPageAsTold 25 = .ok (.iaload, 1) := by decide +kernel
theorem dX4_isPageAsTold_26 : decode cX4_isPageAsTold 26 = .ok (.iconst (-1), 1) := by decide +kernel
theorem dX4_isPageAsTold_27 : decode cX4_isPageAsTold 27 = .ok (.if_icmp .eq 25, 3) := by decide +kernel
theorem dX4_isPageAsTold_30 : decode cX4_isPageAsTold 30 = .ok (.aload_n 1, 1) := by decide +kernel
theorem dX4_isPageAsTold_31 : decode cX4_isPageAsTold 31 = .ok (.getfield 249, 3) := by decide +kernel
theorem dX4_isPageAsTold_34 : decode cX4_isPageAsTold 34 = .ok (.iload 4, 2) := by decide +kernel
theorem dX4_isPageAsTold_36 : decode cX4_isPageAsTold 36 = .ok (.iaload, 1) := by decide +kernel
theorem dX4_isPageAsTold_37 : decode cX4_isPageAsTold 37 = .ok (.aload_n 0, 1) := by decide +kernel
theorem dX4_isPageAsTold_38 : decode cX4_isPageAsTold 38 = .ok (.getfield 19, 3) := by decide +kernel
theorem dX4_isPageAsTold_41 : decode cX4_isPageAsTold 41 = .ok (.iload_n 2, 1) := by decide +kernel
theorem dX4_isPageAsTold_42 : decode cX4_isPageAsTold 42 = .ok (.iload 4, 2) := by decide +kernel
theorem dX4_isPageAsTold_44 : decode cX4_isPageAsTold 44 = .ok (.invokevirtual 62, 3) := by decide +kernel
theorem dX4_isPageAsTold_47 : decode cX4_isPageAsTold 47 = .ok (.if_icmp .eq 5, 3) := by decide +kernel
theorem dX4_isPageAsTold_50 : decode cX4_isPageAsTold 50 = .ok (.iconst 0, 1) := by decide +kernel
theorem dX4_isPageAsTold_51 : decode cX4_isPageAsTold 51 = .ok (.ireturn, 1) := by decide +kernel
theorem dX4_isPageAsTold_52 : decode cX4_isPageAsTold 52 = .ok (.iinc 4 1, 3) := by decide +kernel
theorem dX4_isPageAsTold_55 : decode cX4_isPageAsTold 55 = .ok (.goto (-42), 3) := by decide +kernel
theorem dX4_isPageAsTold_58 : decode cX4_isPageAsTold 58 = .ok (.iconst 1, 1) := by decide +kernel
theorem dX4_isPageAsTold_59 : decode cX4_isPageAsTold 59 = .ok (.ireturn, 1) := by decide +kernel
theorem dX4_isFedAsTold_0 : decode cX4_isFedAsTold 0 = .ok (.iconst 0, 1) := by decide +kernel
theorem dX4_isFedAsTold_1 : decode cX4_isFedAsTold 1 = .ok (.istore_n 3, 1) := by decide +kernel
theorem dX4_isFedAsTold_2 : decode cX4_isFedAsTold 2 = .ok (.iload_n 3, 1) := by decide +kernel
theorem dX4_isFedAsTold_3 : decode cX4_isFedAsTold 3 = .ok (.aload_n 1, 1) := by decide +kernel
theorem dX4_isFedAsTold_4 : decode cX4_isFedAsTold 4 = .ok (.getfield 239, 3) := by decide +kernel
theorem dX4_isFedAsTold_7 : decode cX4_isFedAsTold 7 = .ok (.if_icmp .ge 48, 3) := by decide +kernel
theorem dX4_isFedAsTold_10 : decode cX4_isFedAsTold 10 = .ok (.aload_n 1, 1) := by decide +kernel
theorem dX4_isFedAsTold_11 : decode cX4_isFedAsTold 11 = .ok (.getfield 249, 3) := by decide +kernel
theorem dX4_isFedAsTold_14 : decode cX4_isFedAsTold 14 = .ok (.iload_n 3, 1) := by decide +kernel
theorem dX4_isFedAsTold_15 : decode cX4_isFedAsTold 15 = .ok (.iaload, 1) := by decide +kernel
theorem dX4_isFedAsTold_16 : decode cX4_isFedAsTold 16 = .ok (.iconst (-1), 1) := by decide +kernel
theorem dX4_isFedAsTold_17 : decode cX4_isFedAsTold 17 = .ok (.if_icmp .eq 23, 3) := by decide +kernel
theorem dX4_isFedAsTold_20 : decode cX4_isFedAsTold 20 = .ok (.aload_n 1, 1) := by decide +kernel
theorem dX4_isFedAsTold_21 : decode cX4_isFedAsTold 21 = .ok (.getfield 249, 3) := by decide +kernel
theorem dX4_isFedAsTold_24 : decode cX4_isFedAsTold 24 = .ok (.iload_n 3, 1) := by decide +kernel
theorem dX4_isFedAsTold_25 : decode cX4_isFedAsTold 25 = .ok (.iaload, 1) := by decide +kernel
theorem dX4_isFedAsTold_26 : decode cX4_isFedAsTold 26 = .ok (.aload_n 0, 1) := by decide +kernel
theorem dX4_isFedAsTold_27 : decode cX4_isFedAsTold 27 = .ok (.getfield 19, 3) := by decide +kernel
theorem dX4_isFedAsTold_30 : decode cX4_isFedAsTold 30 = .ok (.iload_n 2, 1) := by decide +kernel
theorem dX4_isFedAsTold_31 : decode cX4_isFedAsTold 31 = .ok (.iconst 3, 1) := by decide +kernel
theorem dX4_isFedAsTold_32 : decode cX4_isFedAsTold 32 = .ok (.invokevirtual 106, 3) := by decide +kernel
theorem dX4_isFedAsTold_35 : decode cX4_isFedAsTold 35 = .ok (.if_icmp .eq 5, 3) := by decide +kernel
theorem dX4_isFedAsTold_38 : decode cX4_isFedAsTold 38 = .ok (.iconst 0, 1) := by decide +kernel
theorem dX4_isFedAsTold_39 : decode cX4_isFedAsTold 39 = .ok (.ireturn, 1) := by decide +kernel
theorem dX4_isFedAsTold_40 : decode cX4_isFedAsTold 40 = .ok (.aload_n 0, 1) := by decide +kernel
theorem dX4_isFedAsTold_41 : decode cX4_isFedAsTold 41 = .ok (.getfield 19, 3) := by decide +kernel
theorem dX4_isFedAsTold_44 : decode cX4_isFedAsTold 44 = .ok (.iconst 1, 1) := by decide +kernel
theorem dX4_isFedAsTold_45 : decode cX4_isFedAsTold 45 = .ok (.iconst 0, 1) := by decide +kernel
theorem dX4_isFedAsTold_46 : decode cX4_isFedAsTold 46 = .ok (.invokevirtual 132, 3) := by decide +kernel
theorem dX4_isFedAsTold_49 : decode cX4_isFedAsTold 49 = .ok (.iinc 3 1, 3) := by decide +kernel
theorem dX4_isFedAsTold_52 : decode cX4_isFedAsTold 52 = .ok (.goto (-50), 3) := by decide +kernel
theorem dX4_isFedAsTold_55 : decode cX4_isFedAsTold 55 = .ok (.iconst 1, 1) := by decide +kernel
theorem dX4_isFedAsTold_56 : decode cX4_isFedAsTold 56 = .ok (.ireturn, 1) := by decide +kernel
theorem dX4_commonDivisor_0 : decode cX4_commonDivisor 0 = .ok (.iload_n 1, 1) := by decide +kernel
theorem dX4_commonDivisor_1 : decode cX4_commonDivisor 1 = .ok (.istore_n 2, 1) := by decide +kernel
theorem dX4_commonDivisor_2 : decode cX4_commonDivisor 2 = .ok (.iload_n 2, 1) := by decide +kernel
theorem dX4_commonDivisor_3 : decode cX4_commonDivisor 3 = .ok (.iconst 1, 1) := by decide +kernel
theorem dX4_commonDivisor_4 : decode cX4_commonDivisor 4 = .ok (.if_icmp .le 23, 3) := by decide +kernel
theorem dX4_commonDivisor_7 : decode cX4_commonDivisor 7 = .ok (.iload_n 0, 1) := by decide +kernel
theorem dX4_commonDivisor_8 : decode cX4_commonDivisor 8 = .ok (.iload_n 2, 1) := by decide +kernel
theorem dX4_commonDivisor_9 : decode cX4_commonDivisor 9 = .ok (.irem, 1) := by decide +kernel
theorem dX4_commonDivisor_10 : decode cX4_commonDivisor 10 = .ok (.ifCond .ne 11, 3) := by decide +kernel
theorem dX4_commonDivisor_13 : decode cX4_commonDivisor 13 = .ok (.iload_n 1, 1) := by decide +kernel
theorem dX4_commonDivisor_14 : decode cX4_commonDivisor 14 = .ok (.iload_n 2, 1) := by decide +kernel
theorem dX4_commonDivisor_15 : decode cX4_commonDivisor 15 = .ok (.irem, 1) := by decide +kernel
theorem dX4_commonDivisor_16 : decode cX4_commonDivisor 16 = .ok (.ifCond .ne 5, 3) := by decide +kernel
theorem dX4_commonDivisor_19 : decode cX4_commonDivisor 19 = .ok (.iload_n 2, 1) := by decide +kernel
theorem dX4_commonDivisor_20 : decode cX4_commonDivisor 20 = .ok (.ireturn, 1) := by decide +kernel
theorem dX4_commonDivisor_21 : decode cX4_commonDivisor 21 = .ok (.iinc 2 (-1), 3) := by decide +kernel
theorem dX4_commonDivisor_24 : decode cX4_commonDivisor 24 = .ok (.goto (-22), 3) := by decide +kernel
theorem dX4_commonDivisor_27 : decode cX4_commonDivisor 27 = .ok (.iconst 1, 1) := by decide +kernel
theorem dX4_commonDivisor_28 : decode cX4_commonDivisor 28 = .ok (.ireturn, 1) := by decide +kernel
theorem dX4_power_0 : decode cX4_power 0 = .ok (.lconst 1, 1) := by decide +kernel
theorem dX4_power_1 : decode cX4_power 1 = .ok (.lstore_n 3, 1) := by decide +kernel
theorem dX4_power_2 : decode cX4_power 2 = .ok (.iconst 0, 1) := by decide +kernel
theorem dX4_power_3 : decode cX4_power 3 = .ok (.istore 5, 2) := by decide +kernel
theorem dX4_power_5 : decode cX4_power 5 = .ok (.iload 5, 2) := by decide +kernel
theorem dX4_power_7 : decode cX4_power 7 = .ok (.iload_n 2, 1) := by decide +kernel
theorem dX4_power_8 : decode cX4_power 8 = .ok (.if_icmp .ge 13, 3) := by decide +kernel
theorem dX4_power_11 : decode cX4_power 11 = .ok (.lload_n 3, 1) := by decide +kernel
theorem dX4_power_12 : decode cX4_power 12 = .ok (.lload_n 0, 1) := by decide +kernel
theorem dX4_power_13 : decode cX4_power 13 = .ok (.lmul, 1) := by decide +kernel
theorem dX4_power_14 : decode cX4_power 14 = .ok (.lstore_n 3, 1) := by decide +kernel
theorem dX4_power_15 : decode cX4_power 15 = .ok (.iinc 5 1, 3) := by decide +kernel
theorem dX4_power_18 : decode cX4_power 18 = .ok (.goto (-13), 3) := by decide +kernel
theorem dX4_power_21 : decode cX4_power 21 = .ok (.lload_n 3, 1) := by decide +kernel
theorem dX4_power_22 : decode cX4_power 22 = .ok (.lreturn, 1) := by decide +kernel
theorem dX5_init_0 : decode cX5_init 0 = .ok (.aload_n 0, 1) := by decide +kernel
theorem dX5_init_1 : decode cX5_init 1 = .ok (.invokespecial 1, 3) := by decide +kernel
theorem dX5_init_4 : decode cX5_init 4 = .ok (.aload_n 0, 1) := by decide +kernel
theorem dX5_init_5 : decode cX5_init 5 = .ok (.bipush 93, 2) := by decide +kernel
theorem dX5_init_7 : decode cX5_init 7 = .ok (.newarray .int, 2) := by decide +kernel
theorem dX5_init_9 : decode cX5_init 9 = .ok (.putfield 7, 3) := by decide +kernel
theorem dX5_init_12 : decode cX5_init 12 = .ok (.aload_n 0, 1) := by decide +kernel
theorem dX5_init_13 : decode cX5_init 13 = .ok (.bipush 93, 2) := by decide +kernel
theorem dX5_init_15 : decode cX5_init 15 = .ok (.newarray .int, 2) := by decide +kernel
theorem dX5_init_17 : decode cX5_init 17 = .ok (.putfield 13, 3) := by decide +kernel
theorem dX5_init_20 : decode cX5_init 20 = .ok (.aload_n 0, 1) := by decide +kernel
theorem dX5_init_21 : decode cX5_init 21 = .ok (.bipush 93, 2) := by decide +kernel
theorem dX5_init_23 : decode cX5_init 23 = .ok (.newarray .int, 2) := by decide +kernel
theorem dX5_init_25 : decode cX5_init 25 = .ok (.putfield 16, 3) := by decide +kernel
theorem dX5_init_28 : decode cX5_init 28 = .ok (.aload_n 0, 1) := by decide +kernel
theorem dX5_init_29 : decode cX5_init 29 = .ok (.bipush 93, 2) := by decide +kernel
theorem dX5_init_31 : decode cX5_init 31 = .ok (.newarray .int, 2) := by decide +kernel
theorem dX5_init_33 : decode cX5_init 33 = .ok (.putfield 19, 3) := by decide +kernel
theorem dX5_init_36 : decode cX5_init 36 = .ok (.aload_n 0, 1) := by decide +kernel
theorem dX5_init_37 : decode cX5_init 37 = .ok (.bipush 8, 2) := by decide +kernel
theorem dX5_init_39 : decode cX5_init 39 = .ok (.newarray .int, 2) := by decide +kernel
theorem dX5_init_41 : decode cX5_init 41 = .ok (.putfield 22, 3) := by decide +kernel
theorem dX5_init_44 : decode cX5_init 44 = .ok (.aload_n 0, 1) := by decide +kernel
theorem dX5_init_45 : decode cX5_init 45 = .ok (.bipush 120, 2) := by decide +kernel
theorem dX5_init_47 : decode cX5_init 47 = .ok (.newarray .int, 2) := by decide +kernel
theorem dX5_init_49 : decode cX5_init 49 = .ok (.putfield 25, 3) := by decide +kernel
theorem dX5_init_52 : decode cX5_init 52 = .ok (.aload_n 0, 1) := by decide +kernel
theorem dX5_init_53 : decode cX5_init 53 = .ok (.iconst 4, 1) := by decide +kernel
theorem dX5_init_54 : decode cX5_init 54 = .ok (.newarray .int, 2) := by decide +kernel
theorem dX5_init_56 : decode cX5_init 56 = .ok (.dup, 1) := by decide +kernel
theorem dX5_init_57 : decode cX5_init 57 = .ok (.iconst 0, 1) := by decide +kernel
theorem dX5_init_58 : decode cX5_init 58 = .ok (.iconst (-1), 1) := by decide +kernel
theorem dX5_init_59 : decode cX5_init 59 = .ok (.iastore, 1) := by decide +kernel
theorem dX5_init_60 : decode cX5_init 60 = .ok (.dup, 1) := by decide +kernel
theorem dX5_init_61 : decode cX5_init 61 = .ok (.iconst 1, 1) := by decide +kernel
theorem dX5_init_62 : decode cX5_init 62 = .ok (.iconst (-1), 1) := by decide +kernel
theorem dX5_init_63 : decode cX5_init 63 = .ok (.iastore, 1) := by decide +kernel
theorem dX5_init_64 : decode cX5_init 64 = .ok (.dup, 1) := by decide +kernel
theorem dX5_init_65 : decode cX5_init 65 = .ok (.iconst 2, 1) := by decide +kernel
theorem dX5_init_66 : decode cX5_init 66 = .ok (.iconst (-1), 1) := by decide +kernel
theorem dX5_init_67 : decode cX5_init 67 = .ok (.iastore, 1) := by decide +kernel
theorem dX5_init_68 : decode cX5_init 68 = .ok (.dup, 1) := by decide +kernel
theorem dX5_init_69 : decode cX5_init 69 = .ok (.iconst 3, 1) := by decide +kernel
theorem dX5_init_70 : decode cX5_init 70 = .ok (.iconst (-1), 1) := by decide +kernel
theorem dX5_init_71 : decode cX5_init 71 = .ok (.iastore, 1) := by decide +kernel
theorem dX5_init_72 : decode cX5_init 72 = .ok (.putfield 28, 3) := by decide +kernel
theorem dX5_init_75 : decode cX5_init 75 = .ok (.aload_n 0, 1) := by decide +kernel
theorem dX5_init_76 : decode cX5_init 76 = .ok (.iconst 4, 1) := by decide +kernel
theorem dX5_init_77 : decode cX5_init 77 = .ok (.newarray .int, 2) := by decide +kernel
theorem dX5_init_79 : decode cX5_init 79 = .ok (.putfield 31, 3) := by decide +kernel
theorem dX5_init_82 : decode cX5_init 82 = .ok (.aload_n 0, 1) := by decide +kernel
theorem dX5_init_83 : decode cX5_init 83 = .ok (.sipush 160, 3) := by decide +kernel
theorem dX5_init_86 : decode cX5_init 86 = .ok (.newarray .int, 2) := by decide +kernel
theorem dX5_init_88 : decode cX5_init 88 = .ok (.putfield 34, 3) := by decide +kernel
theorem dX5_init_91 : decode cX5_init 91 = .ok (.aload_n 0, 1) := by decide +kernel
theorem dX5_init_92 : decode cX5_init 92 = .ok (.bipush 48, 2) := by decide +kernel
theorem dX5_init_94 : decode cX5_init 94 = .ok (.newarray .int, 2) := by decide +kernel
theorem dX5_init_96 : decode cX5_init 96 = .ok (.putfield 37, 3) := by decide +kernel
theorem dX5_init_99 : decode cX5_init 99 = .ok (.aload_n 0, 1) := by decide +kernel
theorem dX5_init_100 : decode cX5_init 100 = .ok (.getfield 7, 3) := by decide +kernel
theorem dX5_init_103 : decode cX5_init 103 = .ok (.iconst 2, 1) := by decide +kernel
theorem dX5_init_104 : decode cX5_init 104 = .ok (.iconst 1, 1) := by decide +kernel
theorem dX5_init_105 : decode cX5_init 105 = .ok (.iastore, 1) := by decide +kernel
theorem dX5_init_106 : decode cX5_init 106 = .ok (.iconst 0, 1) := by decide +kernel
theorem dX5_init_107 : decode cX5_init 107 = .ok (.istore_n 1, 1) := by decide +kernel
theorem dX5_init_108 : decode cX5_init 108 = .ok (.iload_n 1, 1) := by decide +kernel
theorem dX5_init_109 : decode cX5_init 109 = .ok (.bipush 10, 2) := by decide +kernel
theorem dX5_init_111 : decode cX5_init 111 = .ok (.if_icmp .ge 19, 3) := by decide +kernel
theorem dX5_init_114 : decode cX5_init 114 = .ok (.aload_n 0, 1) := by decide +kernel
theorem dX5_init_115 : decode cX5_init 115 = .ok (.getfield 7, 3) := by decide +kernel
theorem dX5_init_118 : decode cX5_init 118 = .ok (.bipush 83, 2) := by decide +kernel
theorem dX5_init_120 : decode cX5_init 120 = .ok (.iload_n 1, 1) := by decide +kernel
theorem dX5_init_121 : decode cX5_init 121 = .ok (.iadd, 1) := by decide +kernel
theorem dX5_init_122 : decode cX5_init 122 = .ok (.iconst (-1), 1) := by decide +kernel
theorem dX5_init_123 : decode cX5_init 123 = .ok (.iastore, 1) := by decide +kernel
theorem dX5_init_124 : decode cX5_init 124 = .ok (.iinc 1 1, 3) := by decide +kernel
theorem dX5_init_127 : decode cX5_init 127 = .ok (.goto (-19), 3) := by decide +kernel
theorem dX5_init_130 : decode cX5_init 130 = .ok (.return_, 1) := by decide +kernel
theorem dX5_isIn_0 : decode cX5_isIn 0 = .ok (.lload_n 0, 1) := by decide +kernel
theorem dX5_isIn_1 : decode cX5_isIn 1 = .ok (.lload_n 2, 1) := by decide +kernel
theorem dX5_isIn_2 : decode cX5_isIn 2 = .ok (.lcmp, 1) := by decide +kernel
theorem dX5_isIn_3 : decode cX5_isIn 3 = .ok (.ifCond .lt 14, 3) := by decide +kernel
theorem dX5_isIn_6 : decode cX5_isIn 6 = .ok (.lload_n 0, 1) := by decide +kernel
theorem dX5_isIn_7 : decode cX5_isIn 7 = .ok (.lload 4, 2) := by decide +kernel
theorem dX5_isIn_9 : decode cX5_isIn 9 = .ok (.lcmp, 1) := by decide +kernel
theorem dX5_isIn_10 : decode cX5_isIn 10 = .ok (.ifCond .gt 7, 3) := by decide +kernel
theorem dX5_isIn_13 : decode cX5_isIn 13 = .ok (.iconst 1, 1) := by decide +kernel
theorem dX5_isIn_14 : decode cX5_isIn 14 = .ok (.goto 4, 3) := by decide +kernel
theorem dX5_isIn_17 : decode cX5_isIn 17 = .ok (.iconst 0, 1) := by decide +kernel
theorem dX5_isIn_18 : decode cX5_isIn 18 = .ok (.ireturn, 1) := by decide +kernel
theorem dX5_finds_0 : decode cX5_finds 0 = .ok (.aload_n 0, 1) := by decide +kernel
theorem dX5_finds_1 : decode cX5_finds 1 = .ok (.getfield 22, 3) := by decide +kernel
theorem dX5_finds_4 : decode cX5_finds 4 = .ok (.iconst 0, 1) := by decide +kernel
theorem dX5_finds_5 : decode cX5_finds 5 = .ok (.dup2, 1) := by decide +kernel
theorem dX5_finds_6 : decode cX5_finds 6 = .ok (.iaload, 1) := by decide +kernel
theorem dX5_finds_7 : decode cX5_finds 7 = .ok (.iconst 1, 1) := by decide +kernel
theorem dX5_finds_8 : decode cX5_finds 8 = .ok (.iadd, 1) := by decide +kernel
theorem dX5_finds_9 : decode cX5_finds 9 = .ok (.iastore, 1) := by decide +kernel
theorem dX5_finds_10 : decode cX5_finds 10 = .ok (.aload_n 0, 1) := by decide +kernel
theorem dX5_finds_11 : decode cX5_finds 11 = .ok (.getfield 22, 3) := by decide +kernel
theorem dX5_finds_14 : decode cX5_finds 14 = .ok (.ldc 40, 2) := by decide +kernel
theorem dX5_finds_16 : decode cX5_finds 16 = .ok (.iload_n 1, 1) := by decide +kernel
theorem dX5_finds_17 : decode cX5_finds 17 = .ok (.isub, 1) := by decide +kernel
theorem dX5_finds_18 : decode cX5_finds 18 = .ok (.iconst 1, 1) := by decide +kernel
theorem dX5_finds_19 : decode cX5_finds 19 = .ok (.iadd, 1) := by decide +kernel
theorem dX5_finds_20 : decode cX5_finds 20 = .ok (.dup2, 1) := by decide +kernel
theorem dX5_finds_21 : decode cX5_finds 21 = .ok (.iaload, 1) := by decide +kernel
theorem dX5_finds_22 : decode cX5_finds 22 = .ok (.iconst 1, 1) := by decide +kernel
theorem dX5_finds_23 : decode cX5_finds 23 = .ok (.iadd, 1) := by decide +kernel
theorem dX5_finds_24 : decode cX5_finds 24 = .ok (.iastore, 1) := by decide +kernel
theorem dX5_finds_25 : decode cX5_finds 25 = .ok (.iload_n 1, 1) := by decide +kernel
theorem dX5_finds_26 : decode cX5_finds 26 = .ok (.ireturn, 1) := by decide +kernel
theorem dX5_becomes_0 : decode cX5_becomes 0 = .ok (.aload_n 0, 1) := by decide +kernel
theorem dX5_becomes_1 : decode cX5_becomes 1 = .ok (.getfield 7, 3) := by decide +kernel
theorem dX5_becomes_4 : decode cX5_becomes 4 = .ok (.iload_n 1, 1) := by decide +kernel
theorem dX5_becomes_5 : decode cX5_becomes 5 = .ok (.iaload, 1) := by decide +kernel
theorem dX5_becomes_6 : decode cX5_becomes 6 = .ok (.istore_n 3, 1) := by decide +kernel
theorem dX5_becomes_7 : decode cX5_becomes 7 = .ok (.aload_n 0, 1) := by decide +kernel
theorem dX5_becomes_8 : decode cX5_becomes 8 = .ok (.getfield 7, 3) := by decide +kernel
theorem dX5_becomes_11 : decode cX5_becomes 11 = .ok (.iload_n 1, 1) := by decide +kernel
theorem dX5_becomes_12 : decode cX5_becomes 12 = .ok (.iload_n 2, 1) := by decide +kernel
theorem dX5_becomes_13 : decode cX5_becomes 13 = .ok (.iastore, 1) := by decide +kernel
theorem dX5_becomes_14 : decode cX5_becomes 14 = .ok (.iload_n 3, 1) := by decide +kernel
theorem dX5_becomes_15 : decode cX5_becomes 15 = .ok (.ireturn, 1) := by decide +kernel
theorem dX5_copyRow_0 : decode cX5_copyRow 0 = .ok (.iconst 0, 1) := by decide +kernel
theorem dX5_copyRow_1 : decode cX5_copyRow 1 = .ok (.istore_n 2, 1) := by decide +kernel
theorem dX5_copyRow_2 : decode cX5_copyRow 2 = .ok (.iload_n 2, 1) := by decide +kernel
theorem dX5_copyRow_3 : decode cX5_copyRow 3 = .ok (.bipush 93, 2) := by decide +kernel
theorem dX5_copyRow_5 : decode cX5_copyRow 5 = .ok (.if_icmp .ge 15, 3) := by decide +kernel
theorem dX5_copyRow_8 : decode cX5_copyRow 8 = .ok (.aload_n 1, 1) := by decide +kernel
theorem dX5_copyRow_9 : decode cX5_copyRow 9 = .ok (.iload_n 2, 1) := by decide +kernel
theorem dX5_copyRow_10 : decode cX5_copyRow 10 = .ok (.aload_n 0, 1) := by decide +kernel
theorem dX5_copyRow_11 : decode cX5_copyRow 11 = .ok (.iload_n 2, 1) := by decide +kernel
theorem dX5_copyRow_12 : decode cX5_copyRow 12 = .ok (.iaload, 1) := by decide +kernel
theorem dX5_copyRow_13 : decode cX5_copyRow 13 = .ok (.iastore, 1) := by decide +kernel
theorem dX5_copyRow_14 : decode cX5_copyRow 14 = .ok (.iinc 2 1, 3) := by decide +kernel
theorem dX5_copyRow_17 : decode cX5_copyRow 17 = .ok (.goto (-15), 3) := by decide +kernel
theorem dX5_copyRow_20 : decode cX5_copyRow 20 = .ok (.return_, 1) := by decide +kernel
theorem dX5_isPage_0 : decode cX5_isPage 0 = .ok (.iload_n 0, 1) := by decide +kernel
theorem dX5_isPage_1 : decode cX5_isPage 1 = .ok (.ifCond .lt 13, 3) := by decide +kernel
theorem dX5_isPage_4 : decode cX5_isPage 4 = .ok (.iload_n 0, 1) := by decide +kernel
theorem dX5_isPage_5 : decode cX5_isPage 5 = .ok (.bipush 6, 2) := by decide +kernel
theorem dX5_isPage_7 : decode cX5_isPage 7 = .ok (.if_icmp .ge 7, 3) := by decide +kernel
theorem dX5_isPage_10 : decode cX5_isPage 10 = .ok (.iconst 1, 1) := by decide +kernel
theorem dX5_isPage_11 : decode cX5_isPage 11 = .ok (.goto 4, 3) := by decide +kernel
theorem dX5_isPage_14 : decode cX5_isPage 14 = .ok (.iconst 0, 1) := by decide +kernel
theorem dX5_isPage_15 : decode cX5_isPage 15 = .ok (.ireturn, 1) := by decide +kernel
theorem dX5_isPlace_0 : decode cX5_isPlace 0 = .ok (.iload_n 0, 1) := by decide +kernel
theorem dX5_isPlace_1 : decode cX5_isPlace 1 = .ok (.invokestatic 41, 3) := by decide +kernel
theorem dX5_isPlace_4 : decode cX5_isPlace 4 = .ok (.ifCond .eq 17, 3) := by decide +kernel
theorem dX5_isPlace_7 : decode cX5_isPlace 7 = .ok (.iload_n 1, 1) := by decide +kernel
theorem dX5_isPlace_8 : decode cX5_isPlace 8 = .ok (.ifCond .lt 13, 3) := by decide +kernel
theorem dX5_isPlace_11 : decode cX5_isPlace 11 = .ok (.iload_n 1, 1) := by decide +kernel
theorem dX5_isPlace_12 : decode cX5_isPlace 12 = .ok (.bipush 8, 2) := by decide +kernel
theorem dX5_isPlace_14 : decode cX5_isPlace 14 = .ok (.if_icmp .ge 7, 3) := by decide +kernel
theorem dX5_isPlace_17 : decode cX5_isPlace 17 = .ok (.iconst 1, 1) := by decide +kernel
theorem dX5_isPlace_18 : decode cX5_isPlace 18 = .ok (.goto 4, 3) := by decide +kernel
theorem dX5_isPlace_21 : decode cX5_isPlace 21 = .ok (.iconst 0, 1) := by decide +kernel
theorem dX5_isPlace_22 : decode cX5_isPlace 22 = .ok (.ireturn, 1) := by decide +kernel
theorem dX5_isMoth_0 : decode cX5_isMoth 0 = .ok (.iload_n 1, 1) := by decide +kernel
theorem dX5_isMoth_1 : decode cX5_isMoth 1 = .ok (.ifCond .lt 17, 3) := by decide +kernel
theorem dX5_isMoth_4 : decode cX5_isMoth 4 = .ok (.iload_n 1, 1) := by decide +kernel
theorem dX5_isMoth_5 : decode cX5_isMoth 5 = .ok (.aload_n 0, 1) := by decide +kernel
theorem dX5_isMoth_6 : decode cX5_isMoth 6 = .ok (.getfield 7, 3) := by decide +kernel
theorem dX5_isMoth_9 : decode cX5_isMoth 9 = .ok (.iconst 0, 1) := by decide +kernel
theorem dX5_isMoth_10 : decode cX5_isMoth 10 = .ok (.iaload, 1) := by decide +kernel
theorem dX5_isMoth_11 : decode cX5_isMoth 11 = .ok (.if_icmp .ge 7, 3) := by decide +kernel
theorem dX5_isMoth_14 : decode cX5_isMoth 14 = .ok (.iconst 1, 1) := by decide +kernel
theorem dX5_isMoth_15 : decode cX5_isMoth 15 = .ok (.goto 4, 3) := by decide +kernel
theorem dX5_isMoth_18 : decode cX5_isMoth 18 = .ok (.iconst 0, 1) := by decide +kernel
theorem dX5_isMoth_19 : decode cX5_isMoth 19 = .ok (.ireturn, 1) := by decide +kernel
theorem dX5_at_0 : decode cX5_at 0 = .ok (.bipush 51, 2) := by decide +kernel
theorem dX5_at_2 : decode cX5_at 2 = .ok (.iconst 4, 1) := by decide +kernel
theorem dX5_at_3 : decode cX5_at 3 = .ok (.iload_n 0, 1) := by decide +kernel
theorem dX5_at_4 : decode cX5_at 4 = .ok (.imul, 1) := by decide +kernel
theorem dX5_at_5 : decode cX5_at 5 = .ok (.iadd, 1) := by decide +kernel
theorem dX5_at_6 : decode cX5_at 6 = .ok (.iload_n 1, 1) := by decide +kernel
theorem dX5_at_7 : decode cX5_at 7 = .ok (.iadd, 1) := by decide +kernel
theorem dX5_at_8 : decode cX5_at 8 = .ok (.ireturn, 1) := by decide +kernel
theorem dX5_its_0 : decode cX5_its 0 = .ok (.aload_n 0, 1) := by decide +kernel
theorem dX5_its_1 : decode cX5_its 1 = .ok (.getfield 7, 3) := by decide +kernel
theorem dX5_its_4 : decode cX5_its 4 = .ok (.bipush 51, 2) := by decide +kernel
theorem dX5_its_6 : decode cX5_its 6 = .ok (.iconst 4, 1) := by decide +kernel
theorem dX5_its_7 : decode cX5_its 7 = .ok (.iload_n 1, 1) := by decide +kernel
theorem dX5_its_8 : decode cX5_its 8 = .ok (.imul, 1) := by decide +kernel
theorem dX5_its_9 : decode cX5_its 9 = .ok (.iadd, 1) := by decide +kernel
theorem dX5_its_10 : decode cX5_its 10 = .ok (.iload_n 2, 1) := by decide +kernel
theorem dX5_its_11 : decode cX5_its 11 = .ok (.iadd, 1) := by decide +kernel
theorem dX5_its_12 : decode cX5_its 12 = .ok (.iaload, 1) := by decide +kernel
theorem dX5_its_13 : decode cX5_its 13 = .ok (.ireturn, 1) := by decide +kernel
theorem dX5_wordAt_0 : decode cX5_wordAt 0 = .ok (.aload_n 0, 1) := by decide +kernel
theorem dX5_wordAt_1 : decode cX5_wordAt 1 = .ok (.getfield 7, 3) := by decide +kernel
theorem dX5_wordAt_4 : decode cX5_wordAt 4 = .ok (.iconst 3, 1) := by decide +kernel
theorem dX5_wordAt_5 : decode cX5_wordAt 5 = .ok (.bipush 8, 2) := by decide +kernel
theorem dX5_wordAt_7 : decode cX5_wordAt 7 = .ok (.iload_n 1, 1) := by decide +kernel
theorem dX5_wordAt_8 : decode cX5_wordAt 8 = .ok (.imul, 1) := by decide +kernel
theorem dX5_wordAt_9 : decode cX5_wordAt 9 = .ok (.iadd, 1) := by decide +kernel
theorem dX5_wordAt_10 : decode cX5_wordAt 10 = .ok (.iload_n 2, 1) := by decide +kernel
theorem dX5_wordAt_11 : decode cX5_wordAt 11 = .ok (.iadd, 1) := by decide +kernel
theorem dX5_wordAt_12 : decode cX5_wordAt 12 = .ok (.iaload, 1) := by decide +kernel
theorem dX5_wordAt_13 : decode cX5_wordAt 13 = .ok (.ireturn, 1) := by decide +kernel
theorem dX5_least_0 : decode cX5_least 0 = .ok (.iload_n 0, 1) := by decide +kernel
theorem dX5_least_1 : decode cX5_least 1 = .ok (.iload_n 1, 1) := by decide +kernel
theorem dX5_least_2 : decode cX5_least 2 = .ok (.if_icmp .ge 7, 3) := by decide +kernel
theorem dX5_least_5 : decode cX5_least 5 = .ok (.iload_n 0, 1) := by decide +kernel
theorem dX5_least_6 : decode cX5_least 6 = .ok (.goto 4, 3) := by decide +kernel
theorem dX5_least_9 : decode cX5_least 9 = .ok (.iload_n 1, 1) := by decide +kernel
theorem dX5_least_10 : decode cX5_least 10 = .ok (.ireturn, 1) := by decide +kernel
theorem dX5_orNone_0 : decode cX5_orNone 0 = .ok (.iload_n 1, 1) := by decide +kernel
theorem dX5_orNone_1 : decode cX5_orNone 1 = .ok (.ifCond .ge 12, 3) := by decide +kernel
theorem dX5_orNone_4 : decode cX5_orNone 4 = .ok (.aload_n 0, 1) := by decide +kernel
theorem dX5_orNone_5 : decode cX5_orNone 5 = .ok (.ldc 45, 2) := by decide +kernel
theorem dX5_orNone_7 : decode cX5_orNone 7 = .ok (.invokevirtual 46, 3) := by decide +kernel
theorem dX5_orNone_10 : decode cX5_orNone 10 = .ok (.goto 4, 3) := by decide +kernel
theorem dX5_orNone_13 : decode cX5_orNone 13 = .ok (.iload_n 1, 1) := by decide +kernel
theorem dX5_orNone_14 : decode cX5_orNone 14 = .ok (.ireturn, 1) := by decide +kernel
theorem dX5_many_0 : decode cX5_many 0 = .ok (.iconst 0, 1) := by decide +kernel
theorem dX5_many_1 : decode cX5_many 1 = .ok (.istore_n 1, 1) := by decide +kernel
theorem dX5_many_2 : decode cX5_many 2 = .ok (.iload_n 0, 1) := by decide +kernel
theorem dX5_many_3 : decode cX5_many 3 = .ok (.istore_n 2, 1) := by decide +kernel
theorem dX5_many_4 : decode cX5_many 4 = .ok (.iload_n 2, 1) := by decide +kernel
theorem dX5_many_5 : decode cX5_many 5 = .ok (.ifCond .eq 15, 3) := by decide +kernel
theorem dX5_many_8 : decode cX5_many 8 = .ok (.iinc 1 1, 3) := by decide +kernel
theorem dX5_many_11 : decode cX5_many 11 = .ok (.iload_n 2, 1) := by decide +kernel
theorem dX5_many_12 : decode cX5_many 12 = .ok (.iload_n 2, 1) := by decide +kernel
theorem dX5_many_13 : decode cX5_many 13 = .ok (.iconst 1, 1) := by decide +kernel
theorem dX5_many_14 : decode cX5_many 14 = .ok (.isub, 1) := by decide +kernel
theorem dX5_many_15 : decode cX5_many 15 = .ok (.iand, 1) := by decide +kernel
theorem dX5_many_16 : decode cX5_many 16 = .ok (.istore_n 2, 1) := by decide +kernel
theorem dX5_many_17 : decode cX5_many 17 = .ok (.goto (-13), 3) := by decide +kernel
theorem dX5_many_20 : decode cX5_many 20 = .ok (.iload_n 1, 1) := by decide +kernel
theorem dX5_many_21 : decode cX5_many 21 = .ok (.ireturn, 1) := by decide +kernel
theorem dX5_word_0 : decode cX5_word 0 = .ok (.iload_n 1, 1) := by decide +kernel
theorem dX5_word_1 : decode cX5_word 1 = .ok (.iload_n 2, 1) := by decide +kernel
theorem dX5_word_2 : decode cX5_word 2 = .ok (.invokestatic 50, 3) := by decide +kernel
theorem dX5_word_5 : decode cX5_word 5 = .ok (.ifCond .eq 31, 3) := by decide +kernel
theorem dX5_word_8 : decode cX5_word 8 = .ok (.iload_n 3, 1) := by decide +kernel
theorem dX5_word_9 : decode cX5_word 9 = .ok (.i2l, 1) := by decide +kernel
theorem dX5_word_10 : decode cX5_word 10 = .ok (.lconst 0, 1) := by decide +kernel
theorem dX5_word_11 : decode cX5_word 11 = .ok (.ldc2_w 54, 3) := by decide +kernel
theorem dX5_word_14 : decode cX5_word 14 = .ok (.invokestatic 56, 3) := by decide +kernel
theorem dX5_word_17 : decode cX5_word 17 = .ok (.ifCond .eq 19, 3) := by decide +kernel
theorem dX5_word_20 : decode cX5_word 20 = .ok (.aload_n 0, 1) := by decide +kernel
theorem dX5_word_21 : decode cX5_word 21 = .ok (.iconst 3, 1) := by decide +kernel
theorem dX5_word_22 : decode cX5_word 22 = .ok (.bipush 8, 2) := by decide +kernel
theorem dX5_word_24 : decode cX5_word 24 = .ok (.iload_n 1, 1) := by decide +kernel
theorem dX5_word_25 : decode cX5_word 25 = .ok (.imul, 1) := by decide +kernel
theorem dX5_word_26 : decode cX5_word 26 = .ok (.iadd, 1) := by decide +kernel
theorem dX5_word_27 : decode cX5_word 27 = .ok (.iload_n 2, 1) := by decide +kernel
theorem dX5_word_28 : decode cX5_word 28 = .ok (.iadd, 1) := by decide +kernel
theorem dX5_word_29 : decode cX5_word 29 = .ok (.iload_n 3, 1) := by decide +kernel
theorem dX5_word_30 : decode cX5_word 30 = .ok (.invokevirtual 60, 3) := by decide +kernel
theorem dX5_word_33 : decode cX5_word 33 = .ok (.goto 9, 3) := by decide +kernel
theorem dX5_word_36 : decode cX5_word 36 = .ok (.aload_n 0, 1) := by decide +kernel
theorem dX5_word_37 : decode cX5_word 37 = .ok (.ldc 40, 2) := by decide +kernel
theorem dX5_word_39 : decode cX5_word 39 = .ok (.invokevirtual 46, 3) := by decide +kernel
theorem dX5_word_42 : decode cX5_word 42 = .ok (.ireturn, 1) := by decide +kernel
theorem dX5_reads_0 : decode cX5_reads 0 = .ok (.iload_n 1, 1) := by decide +kernel
theorem dX5_reads_1 : decode cX5_reads 1 = .ok (.iload_n 2, 1) := by decide +kernel
theorem dX5_reads_2 : decode cX5_reads 2 = .ok (.invokestatic 50, 3) := by decide +kernel
theorem dX5_reads_5 : decode cX5_reads 5 = .ok (.ifCond .eq 12, 3) := by decide +kernel
theorem dX5_reads_8 : decode cX5_reads 8 = .ok (.aload_n 0, 1) := by decide +kernel
theorem dX5_reads_9 : decode cX5_reads 9 = .ok (.iload_n 1, 1) := by decide +kernel
theorem dX5_reads_10 : decode cX5_reads 10 = .ok (.iload_n 2, 1) := by decide +kernel
theorem dX5_reads_11 : decode cX5_reads 11 = .ok (.invokevirtual 64, 3) := by decide +kernel
theorem dX5_reads_14 : decode cX5_reads 14 = .ok (.goto 9, 3) := by decide +kernel
theorem dX5_reads_17 : decode cX5_reads 17 = .ok (.aload_n 0, 1) := by decide +kernel
theorem dX5_reads_18 : decode cX5_reads 18 = .ok (.ldc 40, 2) := by decide +kernel
theorem dX5_reads_20 : decode cX5_reads 20 = .ok (.invokevirtual 46, 3) := by decide +kernel
theorem dX5_reads_23 : decode cX5_reads 23 = .ok (.ireturn, 1) := by decide +kernel
theorem dX5_saysNow_0 : decode cX5_saysNow 0 = .ok (.iconst 0, 1) := by decide +kernel
theorem dX5_saysNow_1 : decode cX5_saysNow 1 = .ok (.istore_n 2, 1) := by decide +kernel
theorem dX5_saysNow_2 : decode cX5_saysNow 2 = .ok (.iconst 0, 1) := by decide +kernel
theorem dX5_saysNow_3 : decode cX5_saysNow 3 = .ok (.istore_n 3, 1) := by decide +kernel
theorem dX5_saysNow_4 : decode cX5_saysNow 4 = .ok (.iload_n 3, 1) := by decide +kernel
theorem dX5_saysNow_5 : decode cX5_saysNow 5 = .ok (.bipush 8, 2) := by decide +kernel
theorem dX5_saysNow_7 : decode cX5_saysNow 7 = .ok (.if_icmp .ge 22, 3) := by decide +kernel
theorem dX5_saysNow_10 : decode cX5_saysNow 10 = .ok (.iload_n 2, 1) := by decide +kernel
theorem dX5_saysNow_11 : decode cX5_saysNow 11 = .ok (.iload_n 3, 1) := by decide +kernel
theorem dX5_saysNow_12 : decode cX5_saysNow 12 = .ok (.iconst 1, 1) := by decide +kernel
theorem dX5_saysNow_13 : decode cX5_saysNow 13 = .ok (.iadd, 1) := by decide +kernel
theorem dX5_saysNow_14 : decode cX5_saysNow 14 = .ok (.aload_n 0, 1) := by decide +kernel
theorem dX5_saysNow_15 : decode cX5_saysNow 15 = .ok (.iload_n 1, 1) := by decide +kernel
theorem dX5_saysNow_16 : decode cX5_saysNow 16 = .ok (.iload_n 3, 1) := by decide +kernel
theorem dX5_saysNow_17 : decode cX5_saysNow 17 = .ok (.invokevirtual 64, 3) := by decide +kernel
theorem dX5_saysNow_20 : decode cX5_saysNow 20 = .ok (.imul, 1) := by decide +kernel
theorem dX5_saysNow_21 : decode cX5_saysNow 21 = .ok (.iadd, 1) := by decide +kernel
theorem dX5_saysNow_22 : decode cX5_saysNow 22 = .ok (.istore_n 2, 1) := by decide +kernel
theorem dX5_saysNow_23 : decode cX5_saysNow 23 = .ok (.iinc 3 1, 3) := by decide +kernel
theorem dX5_saysNow_26 : decode cX5_saysNow 26 = .ok (.goto (-22), 3) := by decide +kernel
theorem dX5_saysNow_29 : decode cX5_saysNow 29 = .ok (.iload_n 2, 1) := by decide +kernel
theorem dX5_saysNow_30 : decode cX5_saysNow 30 = .ok (.ireturn, 1) := by decide +kernel
theorem dX5_whole_0 : decode cX5_whole 0 = .ok (.iconst 0, 1) := by decide +kernel
theorem dX5_whole_1 : decode cX5_whole 1 = .ok (.istore_n 2, 1) := by decide +kernel
theorem dX5_whole_2 : decode cX5_whole 2 = .ok (.iconst 0, 1) := by decide +kernel
theorem dX5_whole_3 : decode cX5_whole 3 = .ok (.istore_n 3, 1) := by decide +kernel
theorem dX5_whole_4 : decode cX5_whole 4 = .ok (.iload_n 3, 1) := by decide +kernel
theorem dX5_whole_5 : decode cX5_whole 5 = .ok (.bipush 8, 2) := by decide +kernel
theorem dX5_whole_7 : decode cX5_whole 7 = .ok (.if_icmp .ge 28, 3) := by decide +kernel
theorem dX5_whole_10 : decode cX5_whole 10 = .ok (.iload_n 2, 1) := by decide +kernel
theorem dX5_whole_11 : decode cX5_whole 11 = .ok (.aload_n 0, 1) := by decide +kernel
theorem dX5_whole_12 : decode cX5_whole 12 = .ok (.iload_n 1, 1) := by decide +kernel
theorem dX5_whole_13 : decode cX5_whole 13 = .ok (.iload_n 3, 1) := by decide +kernel
theorem dX5_whole_14 : decode cX5_whole 14 = .ok (.invokevirtual 64, 3) := by decide +kernel
theorem dX5_whole_17 : decode cX5_whole 17 = .ok (.ifCond .le 9, 3) := by decide +kernel
theorem dX5_whole_20 : decode cX5_whole 20 = .ok (.iconst 1, 1) := by decide +kernel
theorem dX5_whole_21 : decode cX5_whole 21 = .ok (.iload_n 3, 1) := by decide +kernel
theorem dX5_whole_22 : decode cX5_whole 22 = .ok (.ishl, 1) := by decide +kernel
theorem dX5_whole_23 : decode cX5_whole 23 = .ok (.goto 4, 3) := by decide +kernel
theorem dX5_whole_26 : decode cX5_whole 26 = .ok (.iconst 0, 1) := by decide +kernel
theorem dX5_whole_27 : decode cX5_whole 27 = .ok (.ior, 1) := by decide +kernel
theorem dX5_whole_28 : decode cX5_whole 28 = .ok (.istore_n 2, 1) := by decide +kernel
theorem dX5_whole_29 : decode cX5_whole 29 = .ok (.iinc 3 1, 3) := by decide +kernel
theorem dX5_whole_32 : decode cX5_whole 32 = .ok (.goto (-28), 3) := by decide +kernel
theorem dX5_whole_35 : decode cX5_whole 35 = .ok (.iload_n 2, 1) := by decide +kernel
theorem dX5_whole_36 : decode cX5_whole 36 = .ok (.ireturn, 1) := by decide +kernel
theorem dX5_there_0 : decode cX5_there 0 = .ok (.iconst 0, 1) := by decide +kernel
theorem dX5_there_1 : decode cX5_there 1 = .ok (.istore_n 2, 1) := by decide +kernel
theorem dX5_there_2 : decode cX5_there 2 = .ok (.iconst 0, 1) := by decide +kernel
theorem dX5_there_3 : decode cX5_there 3 = .ok (.istore_n 3, 1) := by decide +kernel
theorem dX5_there_4 : decode cX5_there 4 = .ok (.iload_n 3, 1) := by decide +kernel
theorem dX5_there_5 : decode cX5_there 5 = .ok (.aload_n 0, 1) := by decide +kernel
theorem dX5_there_6 : decode cX5_there 6 = .ok (.getfield 7, 3) := by decide +kernel
theorem dX5_there_9 : decode cX5_there 9 = .ok (.iconst 0, 1) := by decide +kernel
theorem dX5_there_10 : decode cX5_there 10 = .ok (.iaload, 1) := by decide +kernel
theorem dX5_there_11 : decode cX5_there 11 = .ok (.if_icmp .ge 29, 3) := by decide +kernel
theorem dX5_there_14 : decode cX5_there 14 = .ok (.iload_n 2, 1) := by decide +kernel
theorem dX5_there_15 : decode cX5_there 15 = .ok (.aload_n 0, 1) := by decide +kernel
theorem dX5_there_16 : decode cX5_there 16 = .ok (.iload_n 3, 1) := by decide +kernel
theorem dX5_there_17 : decode cX5_there 17 = .ok (.iconst 1, 1) := by decide +kernel
theorem dX5_there_18 : decode cX5_there 18 = .ok (.invokevirtual 67, 3) := by decide +kernel
theorem dX5_there_21 : decode cX5_there 21 = .ok (.iload_n 1, 1) := by decide +kernel
theorem dX5_there_22 : decode cX5_there 22 = .ok (.if_icmp .ne 9, 3) := by decide +kernel
theorem dX5_there_25 : decode cX5_there 25 = .ok (.iconst 1, 1) := by decide +kernel
theorem dX5_there_26 : decode cX5_there 26 = .ok (.iload_n 3, 1) := by decide +kernel
theorem dX5_there_27 : decode cX5_there 27 = .ok (.ishl, 1) := by decide +kernel
theorem dX5_there_28 : decode cX5_there 28 = .ok (.goto 4, 3) := by decide +kernel
theorem dX5_there_31 : decode cX5_there 31 = .ok (.iconst 0, 1) := by decide +kernel
theorem dX5_there_32 : decode cX5_there 32 = .ok (.ior, 1) := by decide +kernel
theorem dX5_there_33 : decode cX5_there 33 = .ok (.istore_n 2, 1) := by decide +kernel
theorem dX5_there_34 : decode cX5_there 34 = .ok (.iinc 3 1, 3) := by decide +kernel
theorem dX5_there_37 : decode cX5_there 37 = .ok (.goto (-33), 3) := by decide +kernel
theorem dX5_there_40 : decode cX5_there 40 = .ok (.iload_n 2, 1) := by decide +kernel
theorem dX5_there_41 : decode cX5_there 41 = .ok (.ireturn, 1) := by decide +kernel
theorem dX5_page_0 : decode cX5_page 0 = .ok (.iload_n 1, 1) := by decide +kernel
theorem dX5_page_1 : decode cX5_page 1 = .ok (.invokestatic 41, 3) := by decide +kernel
theorem dX5_page_4 : decode cX5_page 4 = .ok (.ifCond .eq 15, 3) := by decide +kernel
theorem dX5_page_7 : decode cX5_page 7 = .ok (.iload_n 2, 1) := by decide +kernel
theorem dX5_page_8 : decode cX5_page 8 = .ok (.i2l, 1) := by decide +kernel
theorem dX5_page_9 : decode cX5_page 9 = .ok (.lconst 0, 1) := by decide +kernel
theorem dX5_page_10 : decode cX5_page 10 = .ok (.ldc2_w 70, 3) := by decide +kernel
theorem dX5_page_13 : decode cX5_page 13 = .ok (.invokestatic 56, 3) := by decide +kernel
theorem dX5_page_16 : decode cX5_page 16 = .ok (.ifCond .ne 10, 3) := by decide +kernel
theorem dX5_page_19 : decode cX5_page 19 = .ok (.aload_n 0, 1) := by decide +kernel
theorem dX5_page_20 : decode cX5_page 20 = .ok (.ldc 40, 2) := by decide +kernel
theorem dX5_page_22 : decode cX5_page 22 = .ok (.invokevirtual 46, 3) := by decide +kernel
theorem dX5_page_25 : decode cX5_page 25 = .ok (.ireturn, 1) := by decide +kernel
theorem dX5_page_26 : decode cX5_page 26 = .ok (.iload_n 2, 1) := by decide +kernel
theorem dX5_page_27 : decode cX5_page 27 = .ok (.ifCond .ne 11, 3) := by decide +kernel
theorem dX5_page_30 : decode cX5_page 30 = .ok (.aload_n 0, 1) := by decide +kernel
theorem dX5_page_31 : decode cX5_page 31 = .ok (.iload_n 1, 1) := by decide +kernel
theorem dX5_page_32 : decode cX5_page 32 = .ok (.invokevirtual 72, 3) := by decide +kernel
theorem dX5_page_35 : decode cX5_page 35 = .ok (.goto 40, 3) := by decide +kernel
theorem dX5_page_38 : decode cX5_page 38 = .ok (.iload_n 2, 1) := by decide +kernel
theorem dX5_page_39 : decode cX5_page 39 = .ok (.iconst 1, 1) := by decide +kernel
theorem dX5_page_40 : decode cX5_page 40 = .ok (.if_icmp .ne 17, 3) := by decide +kernel
theorem dX5_page_43 : decode cX5_page 43 = .ok (.bipush 8, 2) := by decide +kernel
theorem dX5_page_45 : decode cX5_page 45 = .ok (.aload_n 0, 1) := by decide +kernel
theorem dX5_page_46 : decode cX5_page 46 = .ok (.iload_n 1, 1) := by decide +kernel
theorem dX5_page_47 : decode cX5_page 47 = .ok (.invokevirtual 75, 3) := by decide +kernel
theorem dX5_page_50 : decode cX5_page 50 = .ok (.invokestatic 78, 3) := by decide +kernel
theorem dX5_page_53 : decode cX5_page 53 = .ok (.isub, 1) := by decide +kernel
theorem dX5_page_54 : decode cX5_page 54 = .ok (.goto 21, 3) := by decide +kernel
theorem dX5_page_57 : decode cX5_page 57 = .ok (.iload_n 2, 1) := by decide +kernel
theorem dX5_page_58 : decode cX5_page 58 = .ok (.iconst 2, 1) := by decide +kernel
theorem dX5_page_59 : decode cX5_page 59 = .ok (.if_icmp .ne 11, 3) := by decide +kernel
theorem dX5_page_62 : decode cX5_page 62 = .ok (.aload_n 0, 1) := by decide +kernel
theorem dX5_page_63 : decode cX5_page 63 = .ok (.iload_n 1, 1) := by decide +kernel
theorem dX5_page_64 : decode cX5_page 64 = .ok (.invokevirtual 81, 3) := by decide +kernel
theorem dX5_page_67 : decode cX5_page 67 = .ok (.goto 8, 3) := by decide +kernel
theorem dX5_page_70 : decode cX5_page 70 = .ok (.aload_n 0, 1) := by decide +kernel
theorem dX5_page_71 : decode cX5_page 71 = .ok (.iload_n 1, 1) := by decide +kernel
theorem dX5_page_72 : decode cX5_page 72 = .ok (.invokevirtual 75, 3) := by decide +kernel
theorem dX5_page_75 : decode cX5_page 75 = .ok (.ireturn, 1) := by decide +kernel
theorem dX5_copied_0 : decode cX5_copied 0 = .ok (.iload_n 1, 1) := by decide +kernel
theorem dX5_copied_1 : decode cX5_copied 1 = .ok (.invokestatic 41, 3) := by decide +kernel
theorem dX5_copied_4 : decode cX5_copied 4 = .ok (.ifCond .eq 10, 3) := by decide +kernel
theorem dX5_copied_7 : decode cX5_copied 7 = .ok (.iload_n 2, 1) := by decide +kernel
theorem dX5_copied_8 : decode cX5_copied 8 = .ok (.invokestatic 41, 3) := by decide +kernel
theorem dX5_copied_11 : decode cX5_copied 11 = .ok (.ifCond .ne 10, 3) := by decide +kernel
theorem dX5_copied_14 : decode cX5_copied 14 = .ok (.aload_n 0, 1) := by decide +kernel
theorem dX5_copied_15 : decode cX5_copied 15 = .ok (.ldc 40, 2) := by decide +kernel
theorem dX5_copied_17 : decode cX5_copied 17 = .ok (.invokevirtual 46, 3) := by decide +kernel
theorem dX5_copied_20 : decode cX5_copied 20 = .ok (.ireturn, 1) := by decide +kernel
theorem dX5_copied_21 : decode cX5_copied 21 = .ok (.iconst 0, 1) := by decide +kernel
theorem dX5_copied_22 : decode cX5_copied 22 = .ok (.istore_n 3, 1) := by decide +kernel
theorem dX5_copied_23 : decode cX5_copied 23 = .ok (.iconst 0, 1) := by decide +kernel
theorem dX5_copied_24 : decode cX5_copied 24 = .ok (.istore 4, 2) := by decide +kernel
theorem dX5_copied_26 : decode cX5_copied 26 = .ok (.iload 4, 2) := by decide +kernel
theorem dX5_copied_28 : decode cX5_copied 28 = .ok (.bipush 8, 2) := by decide +kernel
theorem dX5_copied_30 : decode cX5_copied 30 = .ok (.if_icmp .ge 47, 3) := by decide +kernel
theorem dX5_copied_33 : decode cX5_copied 33 = .ok (.iload_n 3, 1) := by decide +kernel
theorem dX5_copied_34 : decode cX5_copied 34 = .ok (.aload_n 0, 1) := by decide +kernel
theorem dX5_copied_35 : decode cX5_copied 35 = .ok (.iconst 3, 1) := by decide +kernel
theorem dX5_copied_36 : decode cX5_copied 36 = .ok (.bipush 8, 2) := by decide +kernel
theorem dX5_copied_38 : decode cX5_copied 38 = .ok (.iload_n 2, 1) := by decide +kernel
theorem dX5_copied_39 : decode cX5_copied 39 = .ok (.imul, 1) := by decide +kernel
theorem dX5_copied_40 : decode cX5_copied 40 = .ok (.iadd, 1) := by decide +kernel
theorem dX5_copied_41 : decode cX5_copied 41 = .ok (.iload 4, 2) := by decide +kernel
theorem dX5_copied_43 : decode cX5_copied 43 = .ok (.iadd, 1) := by decide +kernel
theorem dX5_copied_44 : decode cX5_copied 44 = .ok (.aload_n 0, 1) := by decide +kernel
theorem dX5_copied_45 : decode cX5_copied 45 = .ok (.iload_n 1, 1) := by decide +kernel
theorem dX5_copied_46 : decode cX5_copied 46 = .ok (.iload 4, 2) := by decide +kernel
theorem dX5_copied_48 : decode cX5_copied 48 = .ok (.invokevirtual 64, 3) := by decide +kernel
theorem dX5_copied_51 : decode cX5_copied 51 = .ok (.invokevirtual 60, 3) := by decide +kernel
theorem dX5_copied_54 : decode cX5_copied 54 = .ok (.aload_n 0, 1) := by decide +kernel
theorem dX5_copied_55 : decode cX5_copied 55 = .ok (.iload_n 1, 1) := by decide +kernel
theorem dX5_copied_56 : decode cX5_copied 56 = .ok (.iload 4, 2) := by decide +kernel
theorem dX5_copied_58 : decode cX5_copied 58 = .ok (.invokevirtual 64, 3) := by decide +kernel
theorem dX5_copied_61 : decode cX5_copied 61 = .ok (.if_icmp .ne 7, 3) := by decide +kernel
theorem dX5_copied_64 : decode cX5_copied 64 = .ok (.iconst 0, 1) := by decide +kernel
theorem dX5_copied_65 : decode cX5_copied 65 = .ok (.goto 4, 3) := by decide +kernel
theorem dX5_copied_68 : decode cX5_copied 68 = .ok (.iconst 1, 1) := by decide +kernel
theorem dX5_copied_69 : decode cX5_copied 69 = .ok (.iadd, 1) := by decide +kernel
theorem dX5_copied_70 : decode cX5_copied 70 = .ok (.istore_n 3, 1) := by decide +kernel
theorem dX5_copied_71 : decode cX5_copied 71 = .ok (.iinc 4 1, 3) := by decide +kernel
theorem dX5_copied_74 : decode cX5_copied 74 = .ok (.goto (-48), 3) := by decide +kernel
theorem dX5_copied_77 : decode cX5_copied 77 = .ok (.iload_n 3, 1) := by decide +kernel
theorem dX5_copied_78 : decode cX5_copied 78 = .ok (.ireturn, 1) := by decide +kernel
theorem dX5_comes_0 : decode cX5_comes 0 = .ok (.aload_n 0, 1) := by decide +kernel
theorem dX5_comes_1 : decode cX5_comes 1 = .ok (.getfield 7, 3) := by decide +kernel
theorem dX5_comes_4 : decode cX5_comes 4 = .ok (.aload_n 0, 1) := by decide +kernel
theorem dX5_comes_5 : decode cX5_comes 5 = .ok (.getfield 7, 3) := by decide +kernel
theorem dX5_comes_8 : decode cX5_comes 8 = .ok (.iconst 0, 1) := by decide +kernel
theorem dX5_comes_9 : decode cX5_comes 9 = .ok (.iaload, 1) := by decide +kernel
theorem dX5_comes_10 : decode cX5_comes 10 = .ok (.iconst 0, 1) := by decide +kernel
theorem dX5_comes_11 : decode cX5_comes 11 = .ok (.invokestatic 84, 3) := by decide +kernel
theorem dX5_comes_14 : decode cX5_comes 14 = .ok (.iload_n 1, 1) := by decide +kernel
theorem dX5_comes_15 : decode cX5_comes 15 = .ok (.iastore, 1) := by decide +kernel
theorem dX5_comes_16 : decode cX5_comes 16 = .ok (.aload_n 0, 1) := by decide +kernel
theorem dX5_comes_17 : decode cX5_comes 17 = .ok (.getfield 7, 3) := by decide +kernel
theorem dX5_comes_20 : decode cX5_comes 20 = .ok (.aload_n 0, 1) := by decide +kernel
theorem dX5_comes_21 : decode cX5_comes 21 = .ok (.getfield 7, 3) := by decide +kernel
theorem dX5_comes_24 : decode cX5_comes 24 = .ok (.iconst 0, 1) := by decide +kernel
theorem dX5_comes_25 : decode cX5_comes 25 = .ok (.iaload, 1) := by decide +kernel
theorem dX5_comes_26 : decode cX5_comes 26 = .ok (.iconst 1, 1) := by decide +kernel
theorem dX5_comes_27 : decode cX5_comes 27 = .ok (.invokestatic 84, 3) := by decide +kernel
theorem dX5_comes_30 : decode cX5_comes 30 = .ok (.iload_n 2, 1) := by decide +kernel
theorem dX5_comes_31 : decode cX5_comes 31 = .ok (.iastore, 1) := by decide +kernel
theorem dX5_comes_32 : decode cX5_comes 32 = .ok (.aload_n 0, 1) := by decide +kernel
theorem dX5_comes_33 : decode cX5_comes 33 = .ok (.getfield 7, 3) := by decide +kernel
theorem dX5_comes_36 : decode cX5_comes 36 = .ok (.aload_n 0, 1) := by decide +kernel
theorem dX5_comes_37 : decode cX5_comes 37 = .ok (.getfield 7, 3) := by decide +kernel
theorem dX5_comes_40 : decode cX5_comes 40 = .ok (.iconst 0, 1) := by decide +kernel
theorem dX5_comes_41 : decode cX5_comes 41 = .ok (.iaload, 1) := by decide +kernel
theorem dX5_comes_42 : decode cX5_comes 42 = .ok (.iconst 2, 1) := by decide +kernel
theorem dX5_comes_43 : decode cX5_comes 43 = .ok (.invokestatic 84, 3) := by decide +kernel
theorem dX5_comes_46 : decode cX5_comes 46 = .ok (.iconst 1, 1) := by decide +kernel
theorem dX5_comes_47 : decode cX5_comes 47 = .ok (.iastore, 1) := by decide +kernel
theorem dX5_comes_48 : decode cX5_comes 48 = .ok (.aload_n 0, 1) := by decide +kernel
theorem dX5_comes_49 : decode cX5_comes 49 = .ok (.getfield 7, 3) := by decide +kernel
theorem dX5_comes_52 : decode cX5_comes 52 = .ok (.aload_n 0, 1) := by decide +kernel
theorem dX5_comes_53 : decode cX5_comes 53 = .ok (.getfield 7, 3) := by decide +kernel
theorem dX5_comes_56 : decode cX5_comes 56 = .ok (.iconst 0, 1) := by decide +kernel
theorem dX5_comes_57 : decode cX5_comes 57 = .ok (.iaload, 1) := by decide +kernel
theorem dX5_comes_58 : decode cX5_comes 58 = .ok (.iconst 3, 1) := by decide +kernel
theorem dX5_comes_59 : decode cX5_comes 59 = .ok (.invokestatic 84, 3) := by decide +kernel
theorem dX5_comes_62 : decode cX5_comes 62 = .ok (.iconst 0, 1) := by decide +kernel
theorem dX5_comes_63 : decode cX5_comes 63 = .ok (.iastore, 1) := by decide +kernel
theorem dX5_comes_64 : decode cX5_comes 64 = .ok (.aload_n 0, 1) := by decide +kernel
theorem dX5_comes_65 : decode cX5_comes 65 = .ok (.getfield 7, 3) := by decide +kernel
theorem dX5_comes_68 : decode cX5_comes 68 = .ok (.iconst 0, 1) := by decide +kernel
theorem dX5_comes_69 : decode cX5_comes 69 = .ok (.dup2, 1) := by decide +kernel
theorem dX5_comes_70 : decode cX5_comes 70 = .ok (.iaload, 1) := by decide +kernel
theorem dX5_comes_71 : decode cX5_comes 71 = .ok (.iconst 1, 1) := by decide +kernel
theorem dX5_comes_72 : decode cX5_comes 72 = .ok (.iadd, 1) := by decide +kernel
theorem dX5_comes_73 : decode cX5_comes 73 = .ok (.iastore, 1) := by decide +kernel
theorem dX5_comes_74 : decode cX5_comes 74 = .ok (.return_, 1) := by decide +kernel
theorem dX5_moth_0 : decode cX5_moth 0 = .ok (.iload_n 1, 1) := by decide +kernel
theorem dX5_moth_1 : decode cX5_moth 1 = .ok (.i2l, 1) := by decide +kernel
theorem dX5_moth_2 : decode cX5_moth 2 = .ok (.lconst 0, 1) := by decide +kernel
theorem dX5_moth_3 : decode cX5_moth 3 = .ok (.ldc2_w 87, 3) := by decide +kernel
theorem dX5_moth_6 : decode cX5_moth 6 = .ok (.invokestatic 56, 3) := by decide +kernel
theorem dX5_moth_9 : decode cX5_moth 9 = .ok (.ifCond .eq 10, 3) := by decide +kernel
theorem dX5_moth_12 : decode cX5_moth 12 = .ok (.iload_n 2, 1) := by decide +kernel
theorem dX5_moth_13 : decode cX5_moth 13 = .ok (.invokestatic 41, 3) := by decide +kernel
theorem dX5_moth_16 : decode cX5_moth 16 = .ok (.ifCond .ne 10, 3) := by decide +kernel
theorem dX5_moth_19 : decode cX5_moth 19 = .ok (.aload_n 0, 1) := by decide +kernel
theorem dX5_moth_20 : decode cX5_moth 20 = .ok (.ldc 40, 2) := by decide +kernel
theorem dX5_moth_22 : decode cX5_moth 22 = .ok (.invokevirtual 46, 3) := by decide +kernel
theorem dX5_moth_25 : decode cX5_moth 25 = .ok (.ireturn, 1) := by decide +kernel
theorem dX5_moth_26 : decode cX5_moth 26 = .ok (.aload_n 0, 1) := by decide +kernel
theorem dX5_moth_27 : decode cX5_moth 27 = .ok (.getfield 7, 3) := by decide +kernel
theorem dX5_moth_30 : decode cX5_moth 30 = .ok (.iconst 0, 1) := by decide +kernel
theorem dX5_moth_31 : decode cX5_moth 31 = .ok (.iaload, 1) := by decide +kernel
theorem dX5_moth_32 : decode cX5_moth 32 = .ok (.bipush 8, 2) := by decide +kernel
theorem dX5_moth_34 : decode cX5_moth 34 = .ok (.if_icmp .ne 10, 3) := by decide +kernel
theorem dX5_moth_37 : decode cX5_moth 37 = .ok (.aload_n 0, 1) := by decide +kernel
theorem dX5_moth_38 : decode cX5_moth 38 = .ok (.ldc 89, 2) := by decide +kernel
theorem dX5_moth_40 : decode cX5_moth 40 = .ok (.invokevirtual 46, 3) := by decide +kernel
theorem dX5_moth_43 : decode cX5_moth 43 = .ok (.ireturn, 1) := by decide +kernel
theorem dX5_moth_44 : decode cX5_moth 44 = .ok (.aload_n 0, 1) := by decide +kernel
theorem dX5_moth_45 : decode cX5_moth 45 = .ok (.iload_n 1, 1) := by decide +kernel
theorem dX5_moth_46 : decode cX5_moth 46 = .ok (.iload_n 2, 1) := by decide +kernel
theorem dX5_moth_47 : decode cX5_moth 47 = .ok (.invokevirtual 90, 3) := by decide +kernel
theorem dX5_moth_50 : decode cX5_moth 50 = .ok (.aload_n 0, 1) := by decide +kernel
theorem dX5_moth_51 : decode cX5_moth 51 = .ok (.getfield 7, 3) := by decide +kernel
theorem dX5_moth_54 : decode cX5_moth 54 = .ok (.iconst 0, 1) := by decide +kernel
theorem dX5_moth_55 : decode cX5_moth 55 = .ok (.iaload, 1) := by decide +kernel
theorem dX5_moth_56 : decode cX5_moth 56 = .ok (.iconst 1, 1) := by decide +kernel
theorem dX5_moth_57 : decode cX5_moth 57 = .ok (.isub, 1) := by decide +kernel
theorem dX5_moth_58 : decode cX5_moth 58 = .ok (.ireturn, 1) := by decide +kernel
theorem dX5_firstOf_0 : decode cX5_firstOf 0 = .ok (.iconst (-1), 1) := by decide +kernel
theorem dX5_firstOf_1 : decode cX5_firstOf 1 = .ok (.istore_n 3, 1) := by decide +kernel
theorem dX5_firstOf_2 : decode cX5_firstOf 2 = .ok (.bipush 7, 2) := by decide +kernel
theorem dX5_firstOf_4 : decode cX5_firstOf 4 = .ok (.istore 4, 2) := by decide +kernel
theorem dX5_firstOf_6 : decode cX5_firstOf 6 = .ok (.iload 4, 2) := by decide +kernel
theorem dX5_firstOf_8 : decode cX5_firstOf 8 = .ok (.ifCond .lt 27, 3) := by decide +kernel
theorem dX5_firstOf_11 : decode cX5_firstOf 11 = .ok (.aload_n 0, 1) := by decide +kernel
theorem dX5_firstOf_12 : decode cX5_firstOf 12 = .ok (.iload_n 1, 1) := by decide +kernel
theorem dX5_firstOf_13 : decode cX5_firstOf 13 = .ok (.iload 4, 2) := by decide +kernel
theorem dX5_firstOf_15 : decode cX5_firstOf 15 = .ok (.invokevirtual 64, 3) := by decide +kernel
theorem dX5_firstOf_18 : decode cX5_firstOf 18 = .ok (.iload_n 2, 1) := by decide +kernel
theorem dX5_firstOf_19 : decode cX5_firstOf 19 = .ok (.if_icmp .ne 8, 3) := by decide +kernel
theorem dX5_firstOf_22 : decode cX5_firstOf 22 = .ok (.iload 4, 2) := by decide +kernel
theorem dX5_firstOf_24 : decode cX5_firstOf 24 = .ok (.goto 4, 3) := by decide +kernel
theorem dX5_firstOf_27 : decode cX5_firstOf 27 = .ok (.iload_n 3, 1) := by decide +kernel
theorem dX5_firstOf_28 : decode cX5_firstOf 28 = .ok (.istore_n 3, 1) := by decide +kernel
theorem dX5_firstOf_29 : decode cX5_firstOf 29 = .ok (.iinc 4 (-1), 3) := by decide +kernel
theorem dX5_firstOf_32 : decode cX5_firstOf 32 = .ok (.goto (-26), 3) := by decide +kernel
theorem dX5_firstOf_35 : decode cX5_firstOf 35 = .ok (.iload_n 3, 1) := by decide +kernel
theorem dX5_firstOf_36 : decode cX5_firstOf 36 = .ok (.ireturn, 1) := by decide +kernel
theorem dX5_firstLike_0 : decode cX5_firstLike 0 = .ok (.iconst (-1), 1) := by decide +kernel
theorem dX5_firstLike_1 : decode cX5_firstLike 1 = .ok (.istore_n 3, 1) := by decide +kernel
theorem dX5_firstLike_2 : decode cX5_firstLike 2 = .ok (.bipush 7, 2) := by decide +kernel
theorem dX5_firstLike_4 : decode cX5_firstLike 4 = .ok (.istore 4, 2) := by decide +kernel
theorem dX5_firstLike_6 : decode cX5_firstLike 6 = .ok (.iload 4, 2) := by decide +kernel
theorem dX5_firstLike_8 : decode cX5_firstLike 8 = .ok (.ifCond .lt 40, 3) := by decide +kernel
theorem dX5_firstLike_11 : decode cX5_firstLike 11 = .ok (.aload_n 0, 1) := by decide +kernel
theorem dX5_firstLike_12 : decode cX5_firstLike 12 = .ok (.iload_n 1, 1) := by decide +kernel
theorem dX5_firstLike_13 : decode cX5_firstLike 13 = .ok (.iload 4, 2) := by decide +kernel
theorem dX5_firstLike_15 : decode cX5_firstLike 15 = .ok (.invokevirtual 64, 3) := by decide +kernel
theorem dX5_firstLike_18 : decode cX5_firstLike 18 = .ok (.istore 5, 2) := by decide +kernel
theorem dX5_firstLike_20 : decode cX5_firstLike 20 = .ok (.iload 5, 2) := by decide +kernel
theorem dX5_firstLike_22 : decode cX5_firstLike 22 = .ok (.ifCond .le 18, 3) := by decide +kernel
theorem dX5_firstLike_25 : decode cX5_firstLike 25 = .ok (.iload 5, 2) := by decide +kernel
theorem dX5_firstLike_27 : decode cX5_firstLike 27 = .ok (.iconst 2, 1) := by decide +kernel
theorem dX5_firstLike_28 : decode cX5_firstLike 28 = .ok (.irem, 1) := by decide +kernel
theorem dX5_firstLike_29 : decode cX5_firstLike 29 = .ok (.iload_n 2, 1) := by decide +kernel
theorem dX5_firstLike_30 : decode cX5_firstLike 30 = .ok (.iconst 2, 1) := by decide +kernel
theorem dX5_firstLike_31 : decode cX5_firstLike 31 = .ok (.irem, 1) := by decide +kernel
theorem dX5_firstLike_32 : decode cX5_firstLike 32 = .ok (.if_icmp .ne 8, 3) := by decide +kernel
theorem dX5_firstLike_35 : decode cX5_firstLike 35 = .ok (.iload 4, 2) := by decide +kernel
theorem dX5_firstLike_37 : decode cX5_firstLike 37 = .ok (.goto 4, 3) := by decide +kernel
theorem dX5_firstLike_40 : decode cX5_firstLike 40 = .ok (.iload_n 3, 1) := by decide +kernel
theorem dX5_firstLike_41 : decode cX5_firstLike 41 = .ok (.istore_n 3, 1) := by decide +kernel
theorem dX5_firstLike_42 : decode cX5_firstLike 42 = .ok (.iinc 4 (-1), 3) := by decide +kernel
theorem dX5_firstLike_45 : decode cX5_firstLike 45 = .ok (.goto (-39), 3) := by decide +kernel
theorem dX5_firstLike_48 : decode cX5_firstLike 48 = .ok (.iload_n 3, 1) := by decide +kernel
theorem dX5_firstLike_49 : decode cX5_firstLike 49 = .ok (.ireturn, 1) := by decide +kernel
theorem dX5_firstWhole_0 : decode cX5_firstWhole 0 = .ok (.iconst (-1), 1) := by decide +kernel
theorem dX5_firstWhole_1 : decode cX5_firstWhole 1 = .ok (.istore_n 2, 1) := by decide +kernel
theorem dX5_firstWhole_2 : decode cX5_firstWhole 2 = .ok (.bipush 7, 2) := by decide +kernel
theorem dX5_firstWhole_4 : decode cX5_firstWhole 4 = .ok (.istore_n 3, 1) := by decide +kernel
theorem dX5_firstWhole_5 : decode cX5_firstWhole 5 = .ok (.iload_n 3, 1) := by decide +kernel
theorem dX5_firstWhole_6 : decode cX5_firstWhole 6 = .ok (.ifCond .lt 24, 3) := by decide +kernel
theorem dX5_firstWhole_9 : decode cX5_firstWhole 9 = .ok (.aload_n 0, 1) := by decide +kernel
theorem dX5_firstWhole_10 : decode cX5_firstWhole 10 = .ok (.iload_n 1, 1) := by decide +kernel
theorem dX5_firstWhole_11 : decode cX5_firstWhole 11 = .ok (.iload_n 3, 1) := by decide +kernel
theorem dX5_firstWhole_12 : decode cX5_firstWhole 12 = .ok (.invokevirtual 64, 3) := by decide +kernel
theorem dX5_firstWhole_15 : decode cX5_firstWhole 15 = .ok (.ifCond .le 7, 3) := by decide +kernel
theorem dX5_firstWhole_18 : decode cX5_firstWhole 18 = .ok (.iload_n 3, 1) := by decide +kernel
theorem dX5_firstWhole_19 : decode cX5_firstWhole 19 = .ok (.goto 4, 3) := by decide +kernel
theorem dX5_firstWhole_22 : decode cX5_firstWhole 22 = .ok (.iload_n 2, 1) := by decide +kernel
theorem dX5_firstWhole_23 : decode cX5_firstWhole 23 = .ok (.istore_n 2, 1) := by decide +kernel
theorem dX5_firstWhole_24 : decode cX5_firstWhole 24 = .ok (.iinc 3 (-1), 3) := by decide +kernel
theorem dX5_firstWhole_27 : decode cX5_firstWhole 27 = .ok (.goto (-22), 3) := by decide +kernel
theorem dX5_firstWhole_30 : decode cX5_firstWhole 30 = .ok (.iload_n 2, 1) := by decide +kernel
theorem dX5_firstWhole_31 : decode cX5_firstWhole 31 = .ok (.ireturn, 1) := by decide +kernel
theorem dX5_lastWhole_0 : decode cX5_lastWhole 0 = .ok (.iconst (-1), 1) := by decide +kernel
theorem dX5_lastWhole_1 : decode cX5_lastWhole 1 = .ok (.istore_n 2, 1) := by decide +kernel
theorem dX5_lastWhole_2 : decode cX5_lastWhole 2 = .ok (.iconst 0, 1) := by decide +kernel
theorem dX5_lastWhole_3 : decode cX5_lastWhole 3 = .ok (.istore_n 3, 1) := by decide +kernel
theorem dX5_lastWhole_4 : decode cX5_lastWhole 4 = .ok (.iload_n 3, 1) := by decide +kernel
theorem dX5_lastWhole_5 : decode cX5_lastWhole 5 = .ok (.bipush 8, 2) := by decide +kernel
theorem dX5_lastWhole_7 : decode cX5_lastWhole 7 = .ok (.if_icmp .ge 24, 3) := by decide +kernel
theorem dX5_lastWhole_10 : decode cX5_lastWhole 10 = .ok (.aload_n 0, 1) := by decide +kernel
theorem dX5_lastWhole_11 : decode cX5_lastWhole 11 = .ok (.iload_n 1, 1) := by decide +kernel
theorem dX5_lastWhole_12 : decode cX5_lastWhole 12 = .ok (.iload_n 3, 1) := by decide +kernel
theorem dX5_lastWhole_13 : decode cX5_lastWhole 13 = .ok (.invokevirtual 64, 3) := by decide +kernel
theorem dX5_lastWhole_16 : decode cX5_lastWhole 16 = .ok (.ifCond .le 7, 3) := by decide +kernel
theorem dX5_lastWhole_19 : decode cX5_lastWhole 19 = .ok (.iload_n 3, 1) := by decide +kernel
theorem dX5_lastWhole_20 : decode cX5_lastWhole 20 = .ok (.goto 4, 3) := by decide +kernel
theorem dX5_lastWhole_23 : decode cX5_lastWhole 23 = .ok (.iload_n 2, 1) := by decide +kernel
theorem dX5_lastWhole_24 : decode cX5_lastWhole 24 = .ok (.istore_n 2, 1) := by decide +kernel
theorem dX5_lastWhole_25 : decode cX5_lastWhole 25 = .ok (.iinc 3 1, 3) := by decide +kernel
theorem dX5_lastWhole_28 : decode cX5_lastWhole 28 = .ok (.goto (-24), 3) := by decide +kernel
theorem dX5_lastWhole_31 : decode cX5_lastWhole 31 = .ok (.iload_n 2, 1) := by decide +kernel
theorem dX5_lastWhole_32 : decode cX5_lastWhole 32 = .ok (.ireturn, 1) := by decide +kernel
theorem dX5_scholarBites_0 : decode cX5_scholarBites 0 = .ok (.aload_n 0, 1) := by decide +kernel
theorem dX5_scholarBites_1 : decode cX5_scholarBites 1 = .ok (.iload_n 1, 1) := by decide +kernel
theorem dX5_scholarBites_2 : decode cX5_scholarBites 2 = .ok (.iload_n 2, 1) := by decide +kernel
theorem dX5_scholarBites_3 : decode cX5_scholarBites 3 = .ok (.invokevirtual 94, 3) := by decide +kernel
theorem dX5_scholarBites_6 : decode cX5_scholarBites 6 = .ok (.istore_n 3, 1) := by decide +kernel
theorem dX5_scholarBites_7 : decode cX5_scholarBites 7 = .ok (.iload_n 3, 1) := by decide +kernel
theorem dX5_scholarBites_8 : decode cX5_scholarBites 8 = .ok (.ifCond .lt 17, 3) := by decide +kernel
theorem dX5_scholarBites_11 : decode cX5_scholarBites 11 = .ok (.aload_n 0, 1) := by decide +kernel
theorem dX5_scholarBites_12 : decode cX5_scholarBites 12 = .ok (.iload_n 1, 1) := by decide +kernel
theorem dX5_scholarBites_13 : decode cX5_scholarBites 13 = .ok (.iload_n 3, 1) := by decide +kernel
theorem dX5_scholarBites_14 : decode cX5_scholarBites 14 = .ok (.invokevirtual 64, 3) := by decide +kernel
theorem dX5_scholarBites_17 : decode cX5_scholarBites 17 = .ok (.iload_n 2, 1) := by decide +kernel
theorem dX5_scholarBites_18 : decode cX5_scholarBites 18 = .ok (.if_icmp .lt 7, 3) := by decide +kernel
theorem dX5_scholarBites_21 : decode cX5_scholarBites 21 = .ok (.iload_n 3, 1) := by decide +kernel
theorem dX5_scholarBites_22 : decode cX5_scholarBites 22 = .ok (.goto 4, 3) := by decide +kernel
theorem dX5_scholarBites_25 : decode cX5_scholarBites 25 = .ok (.iconst (-1), 1) := by decide +kernel
theorem dX5_scholarBites_26 : decode cX5_scholarBites 26 = .ok (.ireturn, 1) := by decide +kernel
theorem dX5_bites_0 : decode cX5_bites 0 = .ok (.aload_n 0, 1) := by decide +kernel
theorem dX5_bites_1 : decode cX5_bites 1 = .ok (.iload_n 1, 1) := by decide +kernel
theorem dX5_bites_2 : decode cX5_bites 2 = .ok (.iconst 1, 1) := by decide +kernel
theorem dX5_bites_3 : decode cX5_bites 3 = .ok (.invokevirtual 67, 3) := by decide +kernel
theorem dX5_bites_6 : decode cX5_bites 6 = .ok (.istore_n 2, 1) := by decide +kernel
theorem dX5_bites_7 : decode cX5_bites 7 = .ok (.aload_n 0, 1) := by decide +kernel
theorem dX5_bites_8 : decode cX5_bites 8 = .ok (.iload_n 1, 1) := by decide +kernel
theorem dX5_bites_9 : decode cX5_bites 9 = .ok (.iconst 2, 1) := by decide +kernel
theorem dX5_bites_10 : decode cX5_bites 10 = .ok (.invokevirtual 67, 3) := by decide +kernel
theorem dX5_bites_13 : decode cX5_bites 13 = .ok (.istore_n 3, 1) := by decide +kernel
theorem dX5_bites_14 : decode cX5_bites 14 = .ok (.aload_n 0, 1) := by decide +kernel
theorem dX5_bites_15 : decode cX5_bites 15 = .ok (.iload_n 1, 1) := by decide +kernel
theorem dX5_bites_16 : decode cX5_bites 16 = .ok (.iconst 0, 1) := by decide +kernel
theorem dX5_bites_17 : decode cX5_bites 17 = .ok (.invokevirtual 67, 3) := by decide +kernel
theorem dX5_bites_20 : decode cX5_bites 20 = .ok (.tableswitch 122 1 6 #[40, 46, 53, 60, 85, 116], 40) := by decide +kernel
theorem dX5_bites_60 : decode cX5_bites 60 = .ok (.aload_n 0, 1) := by decide +kernel
theorem dX5_bites_61 : decode cX5_bites 61 = .ok (.iload_n 2, 1) := by decide +kernel
theorem dX5_bites_62 : decode cX5_bites 62 = .ok (.invokevirtual 97, 3) := by decide +kernel
theorem dX5_bites_65 : decode cX5_bites 65 = .ok (.ireturn, 1) := by decide +kernel
theorem dX5_bites_66 : decode cX5_bites 66 = .ok (.aload_n 0, 1) := by decide +kernel
theorem dX5_bites_67 : decode cX5_bites 67 = .ok (.iload_n 2, 1) := by decide +kernel
theorem dX5_bites_68 : decode cX5_bites 68 = .ok (.iload_n 3, 1) := by decide +kernel
theorem dX5_bites_69 : decode cX5_bites 69 = .ok (.invokevirtual 94, 3) := by decide +kernel
theorem dX5_bites_72 : decode cX5_bites 72 = .ok (.ireturn, 1) := by decide +kernel
theorem dX5_bites_73 : decode cX5_bites 73 = .ok (.aload_n 0, 1) := by decide +kernel
theorem dX5_bites_74 : decode cX5_bites 74 = .ok (.iload_n 2, 1) := by decide +kernel
theorem dX5_bites_75 : decode cX5_bites 75 = .ok (.iload_n 3, 1) := by decide +kernel
theorem dX5_bites_76 : decode cX5_bites 76 = .ok (.invokevirtual 100, 3) := by decide +kernel
theorem dX5_bites_79 : decode cX5_bites 79 = .ok (.ireturn, 1) := by decide +kernel
theorem dX5_bites_80 : decode cX5_bites 80 = .ok (.aload_n 0, 1) := by decide +kernel
theorem dX5_bites_81 : decode cX5_bites 81 = .ok (.iload_n 2, 1) := by decide +kernel
theorem dX5_bites_82 : decode cX5_bites 82 = .ok (.iload_n 3, 1) := by decide +kernel
theorem dX5_bites_83 : decode cX5_bites 83 = .ok (.invokevirtual 100, 3) := by decide +kernel
theorem dX5_bites_86 : decode cX5_bites 86 = .ok (.ifCond .ge 12, 3) := by decide +kernel
theorem dX5_bites_89 : decode cX5_bites 89 = .ok (.aload_n 0, 1) := by decide +kernel
theorem dX5_bites_90 : decode cX5_bites 90 = .ok (.iload_n 2, 1) := by decide +kernel
theorem dX5_bites_91 : decode cX5_bites 91 = .ok (.iload_n 3, 1) := by decide +kernel
theorem dX5_bites_92 : decode cX5_bites 92 = .ok (.invokevirtual 103, 3) := by decide +kernel
theorem dX5_bites_95 : decode cX5_bites 95 = .ok (.goto 9, 3) := by decide +kernel
theorem dX5_bites_98 : decode cX5_bites 98 = .ok (.aload_n 0, 1) := by decide +kernel
theorem dX5_bites_99 : decode cX5_bites 99 = .ok (.iload_n 2, 1) := by decide +kernel
theorem dX5_bites_100 : decode cX5_bites 100 = .ok (.iload_n 3, 1) := by decide +kernel
theorem dX5_bites_101 : decode cX5_bites 101 = .ok (.invokevirtual 100, 3) := by decide +kernel
theorem dX5_bites_104 : decode cX5_bites 104 = .ok (.ireturn, 1) := by decide +kernel
theorem dX5_bites_105 : decode cX5_bites 105 = .ok (.aload_n 0, 1) := by decide +kernel
theorem dX5_bites_106 : decode cX5_bites 106 = .ok (.iload_n 2, 1) := by decide +kernel
theorem dX5_bites_107 : decode cX5_bites 107 = .ok (.aload_n 0, 1) := by decide +kernel
theorem dX5_bites_108 : decode cX5_bites 108 = .ok (.iload_n 1, 1) := by decide +kernel
theorem dX5_bites_109 : decode cX5_bites 109 = .ok (.iconst 3, 1) := by decide +kernel
theorem dX5_bites_110 : decode cX5_bites 110 = .ok (.invokevirtual 67, 3) := by decide +kernel
theorem dX5_bites_113 : decode cX5_bites 113 = .ok (.bipush 8, 2) := by decide +kernel
theorem dX5_bites_115 : decode cX5_bites 115 = .ok (.irem, 1) := by decide +kernel
theorem dX5_bites_116 : decode cX5_bites 116 = .ok (.invokevirtual 64, 3) := by decide +kernel
theorem dX5_bites_119 : decode cX5_bites 119 = .ok (.ifCond .le 15, 3) := by decide +kernel
theorem dX5_bites_122 : decode cX5_bites 122 = .ok (.aload_n 0, 1) := by decide +kernel
theorem dX5_bites_123 : decode cX5_bites 123 = .ok (.iload_n 1, 1) := by decide +kernel
theorem dX5_bites_124 : decode cX5_bites 124 = .ok (.iconst 3, 1) := by decide +kernel
theorem dX5_bites_125 : decode cX5_bites 125 = .ok (.invokevirtual 67, 3) := by decide +kernel
theorem dX5_bites_128 : decode cX5_bites 128 = .ok (.bipush 8, 2) := by decide +kernel
theorem dX5_bites_130 : decode cX5_bites 130 = .ok (.irem, 1) := by decide +kernel
theorem dX5_bites_131 : decode cX5_bites 131 = .ok (.goto 4, 3) := by decide +kernel
theorem dX5_bites_134 : decode cX5_bites 134 = .ok (.iconst (-1), 1) := by decide +kernel
theorem dX5_bites_135 : decode cX5_bites 135 = .ok (.ireturn, 1) := by decide +kernel
theorem dX5_bites_136 : decode cX5_bites 136 = .ok (.aload_n 0, 1) := by decide +kernel
theorem dX5_bites_137 : decode cX5_bites 137 = .ok (.iload_n 2, 1) := by decide +kernel
theorem dX5_bites_138 : decode cX5_bites 138 = .ok (.invokevirtual 106, 3) := by decide +kernel
theorem dX5_bites_141 : decode cX5_bites 141 = .ok (.ireturn, 1) := by decide +kernel
theorem dX5_bites_142 : decode cX5_bites 142 = .ok (.aload_n 0, 1) := by decide +kernel
theorem dX5_bites_143 : decode cX5_bites 143 = .ok (.iload_n 2, 1) := by decide +kernel
theorem dX5_bites_144 : decode cX5_bites 144 = .ok (.iload_n 3, 1) := by decide +kernel
theorem dX5_bites_145 : decode cX5_bites 145 = .ok (.invokevirtual 103, 3) := by decide +kernel
theorem dX5_bites_148 : decode cX5_bites 148 = .ok (.ireturn, 1) := by decide +kernel
theorem dX5_leavesBy_0 : decode cX5_leavesBy 0 = .ok (.iload_n 0, 1) := by decide +kernel
theorem dX5_leavesBy_1 : decode cX5_leavesBy 1 = .ok (.tableswitch 83 1 6 #[39, 43, 48, 58, 83, 70], 39) := by decide +kernel
theorem dX5_leavesBy_40 : decode cX5_leavesBy 40 = .ok (.iload_n 1, 1) := by decide +kernel
theorem dX5_leavesBy_41 : decode cX5_leavesBy 41 = .ok (.iconst 1, 1) := by decide +kernel
theorem dX5_leavesBy_42 : decode cX5_leavesBy 42 = .ok (.isub, 1) := by decide +kernel
theorem dX5_leavesBy_43 : decode cX5_leavesBy 43 = .ok (.ireturn, 1) := by decide +kernel
theorem dX5_leavesBy_44 : decode cX5_leavesBy 44 = .ok (.bipush 10, 2) := by decide +kernel
theorem dX5_leavesBy_46 : decode cX5_leavesBy 46 = .ok (.iload_n 1, 1) := by decide +kernel
theorem dX5_leavesBy_47 : decode cX5_leavesBy 47 = .ok (.isub, 1) := by decide +kernel
theorem dX5_leavesBy_48 : decode cX5_leavesBy 48 = .ok (.ireturn, 1) := by decide +kernel
theorem dX5_leavesBy_49 : decode cX5_leavesBy 49 = .ok (.bipush 9, 2) := by decide +kernel
theorem dX5_leavesBy_51 : decode cX5_leavesBy 51 = .ok (.bipush 11, 2) := by decide +kernel
theorem dX5_leavesBy_53 : decode cX5_leavesBy 53 = .ok (.iload_n 1, 1) := by decide +kernel
theorem dX5_leavesBy_54 : decode cX5_leavesBy 54 = .ok (.isub, 1) := by decide +kernel
theorem dX5_leavesBy_55 : decode cX5_leavesBy 55 = .ok (.invokestatic 109, 3) := by decide +kernel
theorem dX5_leavesBy_58 : decode cX5_leavesBy 58 = .ok (.ireturn, 1) := by decide +kernel
theorem dX5_leavesBy_59 : decode cX5_leavesBy 59 = .ok (.bipush 9, 2) := by decide +kernel
theorem dX5_leavesBy_61 : decode cX5_leavesBy 61 = .ok (.bipush 11, 2) := by decide +kernel
theorem dX5_leavesBy_63 : decode cX5_leavesBy 63 = .ok (.iload_n 1, 1) := by decide +kernel
theorem dX5_leavesBy_64 : decode cX5_leavesBy 64 = .ok (.isub, 1) := by decide +kernel
theorem dX5_leavesBy_65 : decode cX5_leavesBy 65 = .ok (.invokestatic 109, 3) := by decide +kernel
theorem dX5_leavesBy_68 : decode cX5_leavesBy 68 = .ok (.iconst 2, 1) := by decide +kernel
theorem dX5_leavesBy_69 : decode cX5_leavesBy 69 = .ok (.idiv, 1) := by decide +kernel
theorem dX5_leavesBy_70 : decode cX5_leavesBy 70 = .ok (.ireturn, 1) := by decide +kernel
theorem dX5_leavesBy_71 : decode cX5_leavesBy 71 = .ok (.iload_n 1, 1) := by decide +kernel
theorem dX5_leavesBy_72 : decode cX5_leavesBy 72 = .ok (.iconst 2, 1) := by decide +kernel
theorem dX5_leavesBy_73 : decode cX5_leavesBy 73 = .ok (.if_icmp .ge 7, 3) := by decide +kernel
theorem dX5_leavesBy_76 : decode cX5_leavesBy 76 = .ok (.iconst 0, 1) := by decide +kernel
theorem dX5_leavesBy_77 : decode cX5_leavesBy 77 = .ok (.goto 6, 3) := by decide +kernel
theorem dX5_leavesBy_80 : decode cX5_leavesBy 80 = .ok (.iload_n 1, 1) := by decide +kernel
theorem dX5_leavesBy_81 : decode cX5_leavesBy 81 = .ok (.iconst 2, 1) := by decide +kernel
theorem dX5_leavesBy_82 : decode cX5_leavesBy 82 = .ok (.isub, 1) := by decide +kernel
theorem dX5_leavesBy_83 : decode cX5_leavesBy 83 = .ok (.ireturn, 1) := by decide +kernel
theorem dX5_leavesBy_84 : decode cX5_leavesBy 84 = .ok (.iconst 0, 1) := by decide +kernel
theorem dX5_leavesBy_85 : decode cX5_leavesBy 85 = .ok (.ireturn, 1) := by decide +kernel
theorem dX5_gainsBy_0 : decode cX5_gainsBy 0 = .ok (.iload_n 0, 1) := by decide +kernel
theorem dX5_gainsBy_1 : decode cX5_gainsBy 1 = .ok (.tableswitch 57 1 6 #[39, 41, 45, 45, 51, 55], 39) := by decide +kernel
theorem dX5_gainsBy_40 : decode cX5_gainsBy 40 = .ok (.iconst 1, 1) := by decide +kernel
theorem dX5_gainsBy_41 : decode cX5_gainsBy 41 = .ok (.ireturn, 1) := by decide +kernel
theorem dX5_gainsBy_42 : decode cX5_gainsBy 42 = .ok (.iload_n 1, 1) := by decide +kernel
theorem dX5_gainsBy_43 : decode cX5_gainsBy 43 = .ok (.iconst 2, 1) := by decide +kernel
theorem dX5_gainsBy_44 : decode cX5_gainsBy 44 = .ok (.idiv, 1) := by decide +kernel
theorem dX5_gainsBy_45 : decode cX5_gainsBy 45 = .ok (.ireturn, 1) := by decide +kernel
theorem dX5_gainsBy_46 : decode cX5_gainsBy 46 = .ok (.iload_n 1, 1) := by decide +kernel
theorem dX5_gainsBy_47 : decode cX5_gainsBy 47 = .ok (.iconst 2, 1) := by decide +kernel
theorem dX5_gainsBy_48 : decode cX5_gainsBy 48 = .ok (.idiv, 1) := by decide +kernel
theorem dX5_gainsBy_49 : decode cX5_gainsBy 49 = .ok (.iconst 1, 1) := by decide +kernel
theorem dX5_gainsBy_50 : decode cX5_gainsBy 50 = .ok (.iadd, 1) := by decide +kernel
theorem dX5_gainsBy_51 : decode cX5_gainsBy 51 = .ok (.ireturn, 1) := by decide +kernel
theorem dX5_gainsBy_52 : decode cX5_gainsBy 52 = .ok (.iload_n 1, 1) := by decide +kernel
theorem dX5_gainsBy_53 : decode cX5_gainsBy 53 = .ok (.iconst 1, 1) := by decide +kernel
theorem dX5_gainsBy_54 : decode cX5_gainsBy 54 = .ok (.iadd, 1) := by decide +kernel
theorem dX5_gainsBy_55 : decode cX5_gainsBy 55 = .ok (.ireturn, 1) := by decide +kernel
theorem dX5_gainsBy_56 : decode cX5_gainsBy 56 = .ok (.iconst 2, 1) := by decide +kernel
theorem dX5_gainsBy_57 : decode cX5_gainsBy 57 = .ok (.ireturn, 1) := by decide +kernel
theorem dX5_gainsBy_58 : decode cX5_gainsBy 58 = .ok (.iload_n 1, 1) := by decide +kernel
theorem dX5_gainsBy_59 : decode cX5_gainsBy 59 = .ok (.ireturn, 1) := by decide +kernel
theorem dX5_of_0 : decode cX5_of 0 = .ok (.aload_n 0, 1) := by decide +kernel
theorem dX5_of_1 : decode cX5_of 1 = .ok (.iload_n 1, 1) := by decide +kernel
theorem dX5_of_2 : decode cX5_of 2 = .ok (.invokevirtual 112, 3) := by decide +kernel
theorem dX5_of_5 : decode cX5_of 5 = .ok (.ifCond .eq 15, 3) := by decide +kernel
theorem dX5_of_8 : decode cX5_of 8 = .ok (.iload_n 2, 1) := by decide +kernel
theorem dX5_of_9 : decode cX5_of 9 = .ok (.i2l, 1) := by decide +kernel
theorem dX5_of_10 : decode cX5_of 10 = .ok (.lconst 0, 1) := by decide +kernel
theorem dX5_of_11 : decode cX5_of 11 = .ok (.ldc2_w 115, 3) := by decide +kernel
theorem dX5_of_14 : decode cX5_of 14 = .ok (.invokestatic 56, 3) := by decide +kernel
theorem dX5_of_17 : decode cX5_of 17 = .ok (.ifCond .ne 10, 3) := by decide +kernel
theorem dX5_of_20 : decode cX5_of 20 = .ok (.aload_n 0, 1) := by decide +kernel
theorem dX5_of_21 : decode cX5_of 21 = .ok (.ldc 40, 2) := by decide +kernel
theorem dX5_of_23 : decode cX5_of 23 = .ok (.invokevirtual 46, 3) := by decide +kernel
theorem dX5_of_26 : decode cX5_of 26 = .ok (.ireturn, 1) := by decide +kernel
theorem dX5_of_27 : decode cX5_of 27 = .ok (.iload_n 2, 1) := by decide +kernel
theorem dX5_of_28 : decode cX5_of 28 = .ok (.iconst 4, 1) := by decide +kernel
theorem dX5_of_29 : decode cX5_of 29 = .ok (.if_icmp .ge 12, 3) := by decide +kernel
theorem dX5_of_32 : decode cX5_of 32 = .ok (.aload_n 0, 1) := by decide +kernel
theorem dX5_of_33 : decode cX5_of 33 = .ok (.iload_n 1, 1) := by decide +kernel
theorem dX5_of_34 : decode cX5_of 34 = .ok (.iload_n 2, 1) := by decide +kernel
theorem dX5_of_35 : decode cX5_of 35 = .ok (.invokevirtual 67, 3) := by decide +kernel
theorem dX5_of_38 : decode cX5_of 38 = .ok (.goto 8, 3) := by decide +kernel
theorem dX5_of_41 : decode cX5_of 41 = .ok (.aload_n 0, 1) := by decide +kernel
theorem dX5_of_42 : decode cX5_of 42 = .ok (.iload_n 1, 1) := by decide +kernel
theorem dX5_of_43 : decode cX5_of 43 = .ok (.invokevirtual 117, 3) := by decide +kernel
theorem dX5_of_46 : decode cX5_of 46 = .ok (.ireturn, 1) := by decide +kernel
theorem dX5_isFit_0 : decode cX5_isFit 0 = .ok (.iload_n 0, 1) := by decide +kernel
theorem dX5_isFit_1 : decode cX5_isFit 1 = .ok (.tableswitch 52 0 2 #[27, 37, 42], 27) := by decide +kernel
theorem dX5_isFit_28 : decode cX5_isFit 28 = .ok (.iload_n 1, 1) := by decide +kernel
theorem dX5_isFit_29 : decode cX5_isFit 29 = .ok (.i2l, 1) := by decide +kernel
theorem dX5_isFit_30 : decode cX5_isFit 30 = .ok (.lconst 0, 1) := by decide +kernel
theorem dX5_isFit_31 : decode cX5_isFit 31 = .ok (.ldc2_w 87, 3) := by decide +kernel
theorem dX5_isFit_34 : decode cX5_isFit 34 = .ok (.invokestatic 56, 3) := by decide +kernel
theorem dX5_isFit_37 : decode cX5_isFit 37 = .ok (.ireturn, 1) := by decide +kernel
theorem dX5_isFit_38 : decode cX5_isFit 38 = .ok (.iload_n 1, 1) := by decide +kernel
theorem dX5_isFit_39 : decode cX5_isFit 39 = .ok (.invokestatic 41, 3) := by decide +kernel
theorem dX5_isFit_42 : decode cX5_isFit 42 = .ok (.ireturn, 1) := by decide +kernel
theorem dX5_isFit_43 : decode cX5_isFit 43 = .ok (.iload_n 1, 1) := by decide +kernel
theorem dX5_isFit_44 : decode cX5_isFit 44 = .ok (.i2l, 1) := by decide +kernel
theorem dX5_isFit_45 : decode cX5_isFit 45 = .ok (.lconst 1, 1) := by decide +kernel
theorem dX5_isFit_46 : decode cX5_isFit 46 = .ok (.ldc2_w 54, 3) := by decide +kernel
theorem dX5_isFit_49 : decode cX5_isFit 49 = .ok (.invokestatic 56, 3) := by decide +kernel
theorem dX5_isFit_52 : decode cX5_isFit 52 = .ok (.ireturn, 1) := by decide +kernel
theorem dX5_isFit_53 : decode cX5_isFit 53 = .ok (.iload_n 0, 1) := by decide +kernel
theorem dX5_isFit_54 : decode cX5_isFit 54 = .ok (.iconst 3, 1) := by decide +kernel
theorem dX5_isFit_55 : decode cX5_isFit 55 = .ok (.if_icmp .ne 19, 3) := by decide +kernel
theorem dX5_isFit_58 : decode cX5_isFit 58 = .ok (.iload_n 1, 1) := by decide +kernel
theorem dX5_isFit_59 : decode cX5_isFit 59 = .ok (.i2l, 1) := by decide +kernel
theorem dX5_isFit_60 : decode cX5_isFit 60 = .ok (.lconst 0, 1) := by decide +kernel
theorem dX5_isFit_61 : decode cX5_isFit 61 = .ok (.ldc2_w 120, 3) := by decide +kernel
theorem dX5_isFit_64 : decode cX5_isFit 64 = .ok (.invokestatic 56, 3) := by decide +kernel
theorem dX5_isFit_67 : decode cX5_isFit 67 = .ok (.ifCond .eq 7, 3) := by decide +kernel
theorem dX5_isFit_70 : decode cX5_isFit 70 = .ok (.iconst 1, 1) := by decide +kernel
theorem dX5_isFit_71 : decode cX5_isFit 71 = .ok (.goto 4, 3) := by decide +kernel
theorem dX5_isFit_74 : decode cX5_isFit 74 = .ok (.iconst 0, 1) := by decide +kernel
theorem dX5_isFit_75 : decode cX5_isFit 75 = .ok (.ireturn, 1) := by decide +kernel
theorem dX5_change_0 : decode cX5_change 0 = .ok (.aload_n 0, 1) := by decide +kernel
theorem dX5_change_1 : decode cX5_change 1 = .ok (.iload_n 1, 1) := by decide +kernel
theorem dX5_change_2 : decode cX5_change 2 = .ok (.invokevirtual 112, 3) := by decide +kernel
theorem dX5_change_5 : decode cX5_change 5 = .ok (.ifCond .eq 24, 3) := by decide +kernel
theorem dX5_change_8 : decode cX5_change 8 = .ok (.iload_n 2, 1) := by decide +kernel
theorem dX5_change_9 : decode cX5_change 9 = .ok (.iload_n 3, 1) := by decide +kernel
theorem dX5_change_10 : decode cX5_change 10 = .ok (.invokestatic 122, 3) := by decide +kernel
theorem dX5_change_13 : decode cX5_change 13 = .ok (.ifCond .eq 16, 3) := by decide +kernel
theorem dX5_change_16 : decode cX5_change 16 = .ok (.aload_n 0, 1) := by decide +kernel
theorem dX5_change_17 : decode cX5_change 17 = .ok (.iload_n 1, 1) := by decide +kernel
theorem dX5_change_18 : decode cX5_change 18 = .ok (.iload_n 2, 1) := by decide +kernel
theorem dX5_change_19 : decode cX5_change 19 = .ok (.invokestatic 84, 3) := by decide +kernel
theorem dX5_change_22 : decode cX5_change 22 = .ok (.iload_n 3, 1) := by decide +kernel
theorem dX5_change_23 : decode cX5_change 23 = .ok (.invokevirtual 60, 3) := by decide +kernel
theorem dX5_change_26 : decode cX5_change 26 = .ok (.goto 9, 3) := by decide +kernel
theorem dX5_change_29 : decode cX5_change 29 = .ok (.aload_n 0, 1) := by decide +kernel
theorem dX5_change_30 : decode cX5_change 30 = .ok (.ldc 40, 2) := by decide +kernel
theorem dX5_change_32 : decode cX5_change 32 = .ok (.invokevirtual 46, 3) := by decide +kernel
theorem dX5_change_35 : decode cX5_change 35 = .ok (.ireturn, 1) := by decide +kernel
theorem dX5_leaves_0 : decode cX5_leaves 0 = .ok (.aload_n 0, 1) := by decide +kernel
theorem dX5_leaves_1 : decode cX5_leaves 1 = .ok (.iload_n 1, 1) := by decide +kernel
theorem dX5_leaves_2 : decode cX5_leaves 2 = .ok (.invokevirtual 112, 3) := by decide +kernel
theorem dX5_leaves_5 : decode cX5_leaves 5 = .ok (.ifCond .eq 25, 3) := by decide +kernel
theorem dX5_leaves_8 : decode cX5_leaves 8 = .ok (.iload_n 2, 1) := by decide +kernel
theorem dX5_leaves_9 : decode cX5_leaves 9 = .ok (.i2l, 1) := by decide +kernel
theorem dX5_leaves_10 : decode cX5_leaves 10 = .ok (.lconst 1, 1) := by decide +kernel
theorem dX5_leaves_11 : decode cX5_leaves 11 = .ok (.ldc2_w 54, 3) := by decide +kernel
theorem dX5_leaves_14 : decode cX5_leaves 14 = .ok (.invokestatic 56, 3) := by decide +kernel
theorem dX5_leaves_17 : decode cX5_leaves 17 = .ok (.ifCond .eq 13, 3) := by decide +kernel
theorem dX5_leaves_20 : decode cX5_leaves 20 = .ok (.iload_n 3, 1) := by decide +kernel
theorem dX5_leaves_21 : decode cX5_leaves 21 = .ok (.i2l, 1) := by decide +kernel
theorem dX5_leaves_22 : decode cX5_leaves 22 = .ok (.lconst 0, 1) := by decide +kernel
theorem dX5_leaves_23 : decode cX5_leaves 23 = .ok (.lconst 1, 1) := by decide +kernel
theorem dX5_leaves_24 : decode cX5_leaves 24 = .ok (.invokestatic 56, 3) := by decide +kernel
theorem dX5_leaves_27 : decode cX5_leaves 27 = .ok (.ifCond .ne 10, 3) := by decide +kernel
theorem dX5_leaves_30 : decode cX5_leaves 30 = .ok (.aload_n 0, 1) := by decide +kernel
theorem dX5_leaves_31 : decode cX5_leaves 31 = .ok (.ldc 40, 2) := by decide +kernel
theorem dX5_leaves_33 : decode cX5_leaves 33 = .ok (.invokevirtual 46, 3) := by decide +kernel
theorem dX5_leaves_36 : decode cX5_leaves 36 = .ok (.ireturn, 1) := by decide +kernel
theorem dX5_leaves_37 : decode cX5_leaves 37 = .ok (.iload_n 3, 1) := by decide +kernel
theorem dX5_leaves_38 : decode cX5_leaves 38 = .ok (.ifCond .ne 16, 3) := by decide +kernel
theorem dX5_leaves_41 : decode cX5_leaves 41 = .ok (.aload_n 0, 1) := by decide +kernel
theorem dX5_leaves_42 : decode cX5_leaves 42 = .ok (.iload_n 1, 1) := by decide +kernel
theorem dX5_leaves_43 : decode cX5_leaves 43 = .ok (.iconst 0, 1) := by decide +kernel
theorem dX5_leaves_44 : decode cX5_leaves 44 = .ok (.invokevirtual 67, 3) := by decide +kernel
theorem dX5_leaves_47 : decode cX5_leaves 47 = .ok (.iload_n 2, 1) := by decide +kernel
theorem dX5_leaves_48 : decode cX5_leaves 48 = .ok (.invokestatic 125, 3) := by decide +kernel
theorem dX5_leaves_51 : decode cX5_leaves 51 = .ok (.goto 13, 3) := by decide +kernel
theorem dX5_leaves_54 : decode cX5_leaves 54 = .ok (.aload_n 0, 1) := by decide +kernel
theorem dX5_leaves_55 : decode cX5_leaves 55 = .ok (.iload_n 1, 1) := by decide +kernel
theorem dX5_leaves_56 : decode cX5_leaves 56 = .ok (.iconst 0, 1) := by decide +kernel
theorem dX5_leaves_57 : decode cX5_leaves 57 = .ok (.invokevirtual 67, 3) := by decide +kernel
theorem dX5_leaves_60 : decode cX5_leaves 60 = .ok (.iload_n 2, 1) := by decide +kernel
theorem dX5_leaves_61 : decode cX5_leaves 61 = .ok (.invokestatic 128, 3) := by decide +kernel
theorem dX5_leaves_64 : decode cX5_leaves 64 = .ok (.ireturn, 1) := by decide +kernel
theorem dX5_nightBut_0 : decode cX5_nightBut 0 = .ok (.iconst 0, 1) := by decide +kernel
theorem dX5_nightBut_1 : decode cX5_nightBut 1 = .ok (.istore_n 2, 1) := by decide +kernel
theorem dX5_nightBut_2 : decode cX5_nightBut 2 = .ok (.iload_n 2, 1) := by decide +kernel
theorem dX5_nightBut_3 : decode cX5_nightBut 3 = .ok (.aload_n 0, 1) := by decide +kernel
theorem dX5_nightBut_4 : decode cX5_nightBut 4 = .ok (.getfield 7, 3) := by decide +kernel
theorem dX5_nightBut_7 : decode cX5_nightBut 7 = .ok (.iconst 0, 1) := by decide +kernel
theorem dX5_nightBut_8 : decode cX5_nightBut 8 = .ok (.iaload, 1) := by decide +kernel
theorem dX5_nightBut_9 : decode cX5_nightBut 9 = .ok (.if_icmp .ge 105, 3) := by decide +kernel
theorem dX5_nightBut_12 : decode cX5_nightBut 12 = .ok (.iload_n 1, 1) := by decide +kernel
theorem dX5_nightBut_13 : decode cX5_nightBut 13 = .ok (.iload_n 2, 1) := by decide +kernel
theorem dX5_nightBut_14 : decode cX5_nightBut 14 = .ok (.ishr, 1) := by decide +kernel
theorem dX5_nightBut_15 : decode cX5_nightBut 15 = .ok (.iconst 1, 1) := by decide +kernel
theorem dX5_nightBut_16 : decode cX5_nightBut 16 = .ok (.iand, 1) := by decide +kernel
theorem dX5_nightBut_17 : decode cX5_nightBut 17 = .ok (.iconst 1, 1) := by decide +kernel
theorem dX5_nightBut_18 : decode cX5_nightBut 18 = .ok (.if_icmp .ne 7, 3) := by decide +kernel
theorem dX5_nightBut_21 : decode cX5_nightBut 21 = .ok (.iconst (-1), 1) := by decide +kernel
theorem dX5_nightBut_22 : decode cX5_nightBut 22 = .ok (.goto 8, 3) := by decide +kernel
theorem dX5_nightBut_25 : decode cX5_nightBut 25 = .ok (.aload_n 0, 1) := by decide +kernel
theorem dX5_nightBut_26 : decode cX5_nightBut 26 = .ok (.iload_n 2, 1) := by decide +kernel
theorem dX5_nightBut_27 : decode cX5_nightBut 27 = .ok (.invokevirtual 117, 3) := by decide +kernel
theorem dX5_nightBut_30 : decode cX5_nightBut 30 = .ok (.istore_n 3, 1) := by decide +kernel
theorem dX5_nightBut_31 : decode cX5_nightBut 31 = .ok (.iload_n 3, 1) := by decide +kernel
theorem dX5_nightBut_32 : decode cX5_nightBut 32 = .ok (.ifCond .lt 76, 3) := by decide +kernel
theorem dX5_nightBut_35 : decode cX5_nightBut 35 = .ok (.aload_n 0, 1) := by decide +kernel
theorem dX5_nightBut_36 : decode cX5_nightBut 36 = .ok (.iload_n 2, 1) := by decide +kernel
theorem dX5_nightBut_37 : decode cX5_nightBut 37 = .ok (.iconst 0, 1) := by decide +kernel
theorem dX5_nightBut_38 : decode cX5_nightBut 38 = .ok (.invokevirtual 67, 3) := by decide +kernel
theorem dX5_nightBut_41 : decode cX5_nightBut 41 = .ok (.istore 4, 2) := by decide +kernel
theorem dX5_nightBut_43 : decode cX5_nightBut 43 = .ok (.aload_n 0, 1) := by decide +kernel
theorem dX5_nightBut_44 : decode cX5_nightBut 44 = .ok (.iconst 3, 1) := by decide +kernel
theorem dX5_nightBut_45 : decode cX5_nightBut 45 = .ok (.bipush 8, 2) := by decide +kernel
theorem dX5_nightBut_47 : decode cX5_nightBut 47 = .ok (.aload_n 0, 1) := by decide +kernel
theorem dX5_nightBut_48 : decode cX5_nightBut 48 = .ok (.iload_n 2, 1) := by decide +kernel
theorem dX5_nightBut_49 : decode cX5_nightBut 49 = .ok (.iconst 1, 1) := by decide +kernel
theorem dX5_nightBut_50 : decode cX5_nightBut 50 = .ok (.invokevirtual 67, 3) := by decide +kernel
