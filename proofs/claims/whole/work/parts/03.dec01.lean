theorem dX0_init_0 : decode cX0_init 0 = .ok (.aload_n 0, 1) := by decide +kernel
theorem dX0_init_1 : decode cX0_init 1 = .ok (.invokespecial 3, 3) := by decide +kernel
theorem dX0_init_4 : decode cX0_init 4 = .ok (.aload_n 0, 1) := by decide +kernel
theorem dX0_init_5 : decode cX0_init 5 = .ok (.bipush 48, 2) := by decide +kernel
theorem dX0_init_7 : decode cX0_init 7 = .ok (.newarray .int, 2) := by decide +kernel
theorem dX0_init_9 : decode cX0_init 9 = .ok (.putfield 9, 3) := by decide +kernel
theorem dX0_init_12 : decode cX0_init 12 = .ok (.aload_n 0, 1) := by decide +kernel
theorem dX0_init_13 : decode cX0_init 13 = .ok (.bipush 32, 2) := by decide +kernel
theorem dX0_init_15 : decode cX0_init 15 = .ok (.newarray .int, 2) := by decide +kernel
theorem dX0_init_17 : decode cX0_init 17 = .ok (.putfield 15, 3) := by decide +kernel
theorem dX0_init_20 : decode cX0_init 20 = .ok (.aload_n 0, 1) := by decide +kernel
theorem dX0_init_21 : decode cX0_init 21 = .ok (.bipush 10, 2) := by decide +kernel
theorem dX0_init_23 : decode cX0_init 23 = .ok (.newarray .int, 2) := by decide +kernel
theorem dX0_init_25 : decode cX0_init 25 = .ok (.putfield 18, 3) := by decide +kernel
theorem dX0_init_28 : decode cX0_init 28 = .ok (.aload_n 0, 1) := by decide +kernel
theorem dX0_init_29 : decode cX0_init 29 = .ok (.iconst 0, 1) := by decide +kernel
theorem dX0_init_30 : decode cX0_init 30 = .ok (.putfield 21, 3) := by decide +kernel
theorem dX0_init_33 : decode cX0_init 33 = .ok (.aload_n 0, 1) := by decide +kernel
theorem dX0_init_34 : decode cX0_init 34 = .ok (.iconst 0, 1) := by decide +kernel
theorem dX0_init_35 : decode cX0_init 35 = .ok (.putfield 25, 3) := by decide +kernel
theorem dX0_init_38 : decode cX0_init 38 = .ok (.aload_n 0, 1) := by decide +kernel
theorem dX0_init_39 : decode cX0_init 39 = .ok (.iconst 1, 1) := by decide +kernel
theorem dX0_init_40 : decode cX0_init 40 = .ok (.putfield 28, 3) := by decide +kernel
theorem dX0_init_43 : decode cX0_init 43 = .ok (.iconst 0, 1) := by decide +kernel
theorem dX0_init_44 : decode cX0_init 44 = .ok (.istore_n 1, 1) := by decide +kernel
theorem dX0_init_45 : decode cX0_init 45 = .ok (.iload_n 1, 1) := by decide +kernel
theorem dX0_init_46 : decode cX0_init 46 = .ok (.bipush 10, 2) := by decide +kernel
theorem dX0_init_48 : decode cX0_init 48 = .ok (.if_icmp .ge 16, 3) := by decide +kernel
theorem dX0_init_51 : decode cX0_init 51 = .ok (.aload_n 0, 1) := by decide +kernel
theorem dX0_init_52 : decode cX0_init 52 = .ok (.getfield 18, 3) := by decide +kernel
theorem dX0_init_55 : decode cX0_init 55 = .ok (.iload_n 1, 1) := by decide +kernel
theorem dX0_init_56 : decode cX0_init 56 = .ok (.iconst (-1), 1) := by decide +kernel
theorem dX0_init_57 : decode cX0_init 57 = .ok (.iastore, 1) := by decide +kernel
theorem dX0_init_58 : decode cX0_init 58 = .ok (.iinc 1 1, 3) := by decide +kernel
theorem dX0_init_61 : decode cX0_init 61 = .ok (.goto (-16), 3) := by decide +kernel
theorem dX0_init_64 : decode cX0_init 64 = .ok (.return_, 1) := by decide +kernel
theorem dX0_become_0 : decode cX0_become 0 = .ok (.aload_n 1, 1) := by decide +kernel
theorem dX0_become_1 : decode cX0_become 1 = .ok (.getfield 9, 3) := by decide +kernel
theorem dX0_become_4 : decode cX0_become 4 = .ok (.iconst 0, 1) := by decide +kernel
theorem dX0_become_5 : decode cX0_become 5 = .ok (.aload_n 0, 1) := by decide +kernel
theorem dX0_become_6 : decode cX0_become 6 = .ok (.getfield 9, 3) := by decide +kernel
theorem dX0_become_9 : decode cX0_become 9 = .ok (.iconst 0, 1) := by decide +kernel
theorem dX0_become_10 : decode cX0_become 10 = .ok (.aload_n 0, 1) := by decide +kernel
theorem dX0_become_11 : decode cX0_become 11 = .ok (.getfield 9, 3) := by decide +kernel
theorem dX0_become_14 : decode cX0_become 14 = .ok (.arraylength, 1) := by decide +kernel
theorem dX0_become_15 : decode cX0_become 15 = .ok (.invokestatic 31, 3) := by decide +kernel
theorem dX0_become_18 : decode cX0_become 18 = .ok (.aload_n 1, 1) := by decide +kernel
theorem dX0_become_19 : decode cX0_become 19 = .ok (.getfield 15, 3) := by decide +kernel
theorem dX0_become_22 : decode cX0_become 22 = .ok (.iconst 0, 1) := by decide +kernel
theorem dX0_become_23 : decode cX0_become 23 = .ok (.aload_n 0, 1) := by decide +kernel
theorem dX0_become_24 : decode cX0_become 24 = .ok (.getfield 15, 3) := by decide +kernel
theorem dX0_become_27 : decode cX0_become 27 = .ok (.iconst 0, 1) := by decide +kernel
theorem dX0_become_28 : decode cX0_become 28 = .ok (.aload_n 0, 1) := by decide +kernel
theorem dX0_become_29 : decode cX0_become 29 = .ok (.getfield 15, 3) := by decide +kernel
theorem dX0_become_32 : decode cX0_become 32 = .ok (.arraylength, 1) := by decide +kernel
theorem dX0_become_33 : decode cX0_become 33 = .ok (.invokestatic 31, 3) := by decide +kernel
theorem dX0_become_36 : decode cX0_become 36 = .ok (.aload_n 1, 1) := by decide +kernel
theorem dX0_become_37 : decode cX0_become 37 = .ok (.getfield 18, 3) := by decide +kernel
theorem dX0_become_40 : decode cX0_become 40 = .ok (.iconst 0, 1) := by decide +kernel
theorem dX0_become_41 : decode cX0_become 41 = .ok (.aload_n 0, 1) := by decide +kernel
theorem dX0_become_42 : decode cX0_become 42 = .ok (.getfield 18, 3) := by decide +kernel
theorem dX0_become_45 : decode cX0_become 45 = .ok (.iconst 0, 1) := by decide +kernel
theorem dX0_become_46 : decode cX0_become 46 = .ok (.aload_n 0, 1) := by decide +kernel
theorem dX0_become_47 : decode cX0_become 47 = .ok (.getfield 18, 3) := by decide +kernel
theorem dX0_become_50 : decode cX0_become 50 = .ok (.arraylength, 1) := by decide +kernel
theorem dX0_become_51 : decode cX0_become 51 = .ok (.invokestatic 31, 3) := by decide +kernel
theorem dX0_become_54 : decode cX0_become 54 = .ok (.aload_n 0, 1) := by decide +kernel
theorem dX0_become_55 : decode cX0_become 55 = .ok (.aload_n 1, 1) := by decide +kernel
theorem dX0_become_56 : decode cX0_become 56 = .ok (.getfield 21, 3) := by decide +kernel
theorem dX0_become_59 : decode cX0_become 59 = .ok (.putfield 21, 3) := by decide +kernel
theorem dX0_become_62 : decode cX0_become 62 = .ok (.aload_n 0, 1) := by decide +kernel
theorem dX0_become_63 : decode cX0_become 63 = .ok (.aload_n 1, 1) := by decide +kernel
theorem dX0_become_64 : decode cX0_become 64 = .ok (.getfield 25, 3) := by decide +kernel
theorem dX0_become_67 : decode cX0_become 67 = .ok (.putfield 25, 3) := by decide +kernel
theorem dX0_become_70 : decode cX0_become 70 = .ok (.aload_n 0, 1) := by decide +kernel
theorem dX0_become_71 : decode cX0_become 71 = .ok (.aload_n 1, 1) := by decide +kernel
theorem dX0_become_72 : decode cX0_become 72 = .ok (.getfield 28, 3) := by decide +kernel
theorem dX0_become_75 : decode cX0_become 75 = .ok (.putfield 28, 3) := by decide +kernel
theorem dX0_become_78 : decode cX0_become 78 = .ok (.return_, 1) := by decide +kernel
theorem dX0_wordAt_0 : decode cX0_wordAt 0 = .ok (.aload_n 0, 1) := by decide +kernel
theorem dX0_wordAt_1 : decode cX0_wordAt 1 = .ok (.getfield 9, 3) := by decide +kernel
theorem dX0_wordAt_4 : decode cX0_wordAt 4 = .ok (.iload_n 1, 1) := by decide +kernel
theorem dX0_wordAt_5 : decode cX0_wordAt 5 = .ok (.bipush 8, 2) := by decide +kernel
theorem dX0_wordAt_7 : decode cX0_wordAt 7 = .ok (.imul, 1) := by decide +kernel
theorem dX0_wordAt_8 : decode cX0_wordAt 8 = .ok (.iload_n 2, 1) := by decide +kernel
theorem dX0_wordAt_9 : decode cX0_wordAt 9 = .ok (.iadd, 1) := by decide +kernel
theorem dX0_wordAt_10 : decode cX0_wordAt 10 = .ok (.iaload, 1) := by decide +kernel
theorem dX0_wordAt_11 : decode cX0_wordAt 11 = .ok (.ireturn, 1) := by decide +kernel
theorem dX0_setWord_0 : decode cX0_setWord 0 = .ok (.aload_n 0, 1) := by decide +kernel
theorem dX0_setWord_1 : decode cX0_setWord 1 = .ok (.getfield 9, 3) := by decide +kernel
theorem dX0_setWord_4 : decode cX0_setWord 4 = .ok (.iload_n 1, 1) := by decide +kernel
theorem dX0_setWord_5 : decode cX0_setWord 5 = .ok (.bipush 8, 2) := by decide +kernel
theorem dX0_setWord_7 : decode cX0_setWord 7 = .ok (.imul, 1) := by decide +kernel
theorem dX0_setWord_8 : decode cX0_setWord 8 = .ok (.iload_n 2, 1) := by decide +kernel
theorem dX0_setWord_9 : decode cX0_setWord 9 = .ok (.iadd, 1) := by decide +kernel
theorem dX0_setWord_10 : decode cX0_setWord 10 = .ok (.iload_n 3, 1) := by decide +kernel
theorem dX0_setWord_11 : decode cX0_setWord 11 = .ok (.iastore, 1) := by decide +kernel
theorem dX0_setWord_12 : decode cX0_setWord 12 = .ok (.return_, 1) := by decide +kernel
theorem dX0_setHoles_0 : decode cX0_setHoles 0 = .ok (.iconst 0, 1) := by decide +kernel
theorem dX0_setHoles_1 : decode cX0_setHoles 1 = .ok (.istore_n 2, 1) := by decide +kernel
theorem dX0_setHoles_2 : decode cX0_setHoles 2 = .ok (.iload_n 2, 1) := by decide +kernel
theorem dX0_setHoles_3 : decode cX0_setHoles 3 = .ok (.bipush 8, 2) := by decide +kernel
theorem dX0_setHoles_5 : decode cX0_setHoles 5 = .ok (.if_icmp .ge 16, 3) := by decide +kernel
theorem dX0_setHoles_8 : decode cX0_setHoles 8 = .ok (.aload_n 0, 1) := by decide +kernel
theorem dX0_setHoles_9 : decode cX0_setHoles 9 = .ok (.iload_n 1, 1) := by decide +kernel
theorem dX0_setHoles_10 : decode cX0_setHoles 10 = .ok (.iload_n 2, 1) := by decide +kernel
theorem dX0_setHoles_11 : decode cX0_setHoles 11 = .ok (.iconst 0, 1) := by decide +kernel
theorem dX0_setHoles_12 : decode cX0_setHoles 12 = .ok (.invokevirtual 37, 3) := by decide +kernel
theorem dX0_setHoles_15 : decode cX0_setHoles 15 = .ok (.iinc 2 1, 3) := by decide +kernel
theorem dX0_setHoles_18 : decode cX0_setHoles 18 = .ok (.goto (-16), 3) := by decide +kernel
theorem dX0_setHoles_21 : decode cX0_setHoles 21 = .ok (.return_, 1) := by decide +kernel
theorem dX0_saidBy_0 : decode cX0_saidBy 0 = .ok (.iconst 0, 1) := by decide +kernel
theorem dX0_saidBy_1 : decode cX0_saidBy 1 = .ok (.istore_n 2, 1) := by decide +kernel
theorem dX0_saidBy_2 : decode cX0_saidBy 2 = .ok (.iconst 0, 1) := by decide +kernel
theorem dX0_saidBy_3 : decode cX0_saidBy 3 = .ok (.istore_n 3, 1) := by decide +kernel
theorem dX0_saidBy_4 : decode cX0_saidBy 4 = .ok (.iload_n 3, 1) := by decide +kernel
theorem dX0_saidBy_5 : decode cX0_saidBy 5 = .ok (.bipush 8, 2) := by decide +kernel
theorem dX0_saidBy_7 : decode cX0_saidBy 7 = .ok (.if_icmp .ge 22, 3) := by decide +kernel
theorem dX0_saidBy_10 : decode cX0_saidBy 10 = .ok (.iload_n 2, 1) := by decide +kernel
theorem dX0_saidBy_11 : decode cX0_saidBy 11 = .ok (.aload_n 0, 1) := by decide +kernel
theorem dX0_saidBy_12 : decode cX0_saidBy 12 = .ok (.iload_n 1, 1) := by decide +kernel
theorem dX0_saidBy_13 : decode cX0_saidBy 13 = .ok (.iload_n 3, 1) := by decide +kernel
theorem dX0_saidBy_14 : decode cX0_saidBy 14 = .ok (.invokevirtual 41, 3) := by decide +kernel
theorem dX0_saidBy_17 : decode cX0_saidBy 17 = .ok (.iload_n 3, 1) := by decide +kernel
theorem dX0_saidBy_18 : decode cX0_saidBy 18 = .ok (.iconst 1, 1) := by decide +kernel
theorem dX0_saidBy_19 : decode cX0_saidBy 19 = .ok (.iadd, 1) := by decide +kernel
theorem dX0_saidBy_20 : decode cX0_saidBy 20 = .ok (.imul, 1) := by decide +kernel
theorem dX0_saidBy_21 : decode cX0_saidBy 21 = .ok (.iadd, 1) := by decide +kernel
theorem dX0_saidBy_22 : decode cX0_saidBy 22 = .ok (.istore_n 2, 1) := by decide +kernel
theorem dX0_saidBy_23 : decode cX0_saidBy 23 = .ok (.iinc 3 1, 3) := by decide +kernel
theorem dX0_saidBy_26 : decode cX0_saidBy 26 = .ok (.goto (-22), 3) := by decide +kernel
theorem dX0_saidBy_29 : decode cX0_saidBy 29 = .ok (.iload_n 2, 1) := by decide +kernel
theorem dX0_saidBy_30 : decode cX0_saidBy 30 = .ok (.ireturn, 1) := by decide +kernel
theorem dX0_placesWithWords_0 : decode cX0_placesWithWords 0 = .ok (.iconst 0, 1) := by decide +kernel
theorem dX0_placesWithWords_1 : decode cX0_placesWithWords 1 = .ok (.istore_n 2, 1) := by decide +kernel
theorem dX0_placesWithWords_2 : decode cX0_placesWithWords 2 = .ok (.iconst 0, 1) := by decide +kernel
theorem dX0_placesWithWords_3 : decode cX0_placesWithWords 3 = .ok (.istore_n 3, 1) := by decide +kernel
theorem dX0_placesWithWords_4 : decode cX0_placesWithWords 4 = .ok (.iload_n 3, 1) := by decide +kernel
theorem dX0_placesWithWords_5 : decode cX0_placesWithWords 5 = .ok (.bipush 8, 2) := by decide +kernel
theorem dX0_placesWithWords_7 : decode cX0_placesWithWords 7 = .ok (.if_icmp .ge 24, 3) := by decide +kernel
theorem dX0_placesWithWords_10 : decode cX0_placesWithWords 10 = .ok (.aload_n 0, 1) := by decide +kernel
theorem dX0_placesWithWords_11 : decode cX0_placesWithWords 11 = .ok (.iload_n 1, 1) := by decide +kernel
theorem dX0_placesWithWords_12 : decode cX0_placesWithWords 12 = .ok (.iload_n 3, 1) := by decide +kernel
theorem dX0_placesWithWords_13 : decode cX0_placesWithWords 13 = .ok (.invokevirtual 41, 3) := by decide +kernel
theorem dX0_placesWithWords_16 : decode cX0_placesWithWords 16 = .ok (.ifCond .eq 9, 3) := by decide +kernel
theorem dX0_placesWithWords_19 : decode cX0_placesWithWords 19 = .ok (.iload_n 2, 1) := by decide +kernel
theorem dX0_placesWithWords_20 : decode cX0_placesWithWords 20 = .ok (.iconst 1, 1) := by decide +kernel
theorem dX0_placesWithWords_21 : decode cX0_placesWithWords 21 = .ok (.iload_n 3, 1) := by decide +kernel
theorem dX0_placesWithWords_22 : decode cX0_placesWithWords 22 = .ok (.ishl, 1) := by decide +kernel
theorem dX0_placesWithWords_23 : decode cX0_placesWithWords 23 = .ok (.ior, 1) := by decide +kernel
theorem dX0_placesWithWords_24 : decode cX0_placesWithWords 24 = .ok (.istore_n 2, 1) := by decide +kernel
theorem dX0_placesWithWords_25 : decode cX0_placesWithWords 25 = .ok (.iinc 3 1, 3) := by decide +kernel
theorem dX0_placesWithWords_28 : decode cX0_placesWithWords 28 = .ok (.goto (-24), 3) := by decide +kernel
theorem dX0_placesWithWords_31 : decode cX0_placesWithWords 31 = .ok (.iload_n 2, 1) := by decide +kernel
theorem dX0_placesWithWords_32 : decode cX0_placesWithWords 32 = .ok (.ireturn, 1) := by decide +kernel
theorem dX0_holesOf_0 : decode cX0_holesOf 0 = .ok (.bipush 8, 2) := by decide +kernel
theorem dX0_holesOf_2 : decode cX0_holesOf 2 = .ok (.aload_n 0, 1) := by decide +kernel
theorem dX0_holesOf_3 : decode cX0_holesOf 3 = .ok (.iload_n 1, 1) := by decide +kernel
theorem dX0_holesOf_4 : decode cX0_holesOf 4 = .ok (.invokevirtual 45, 3) := by decide +kernel
theorem dX0_holesOf_7 : decode cX0_holesOf 7 = .ok (.invokestatic 49, 3) := by decide +kernel
theorem dX0_holesOf_10 : decode cX0_holesOf 10 = .ok (.isub, 1) := by decide +kernel
theorem dX0_holesOf_11 : decode cX0_holesOf 11 = .ok (.ireturn, 1) := by decide +kernel
theorem dX0_isBare_0 : decode cX0_isBare 0 = .ok (.aload_n 0, 1) := by decide +kernel
theorem dX0_isBare_1 : decode cX0_isBare 1 = .ok (.iload_n 1, 1) := by decide +kernel
theorem dX0_isBare_2 : decode cX0_isBare 2 = .ok (.invokevirtual 45, 3) := by decide +kernel
theorem dX0_isBare_5 : decode cX0_isBare 5 = .ok (.ifCond .ne 7, 3) := by decide +kernel
theorem dX0_isBare_8 : decode cX0_isBare 8 = .ok (.iconst 1, 1) := by decide +kernel
theorem dX0_isBare_9 : decode cX0_isBare 9 = .ok (.goto 4, 3) := by decide +kernel
theorem dX0_isBare_12 : decode cX0_isBare 12 = .ok (.iconst 0, 1) := by decide +kernel
theorem dX0_isBare_13 : decode cX0_isBare 13 = .ok (.ireturn, 1) := by decide +kernel
theorem dX0_unlikePlaces_0 : decode cX0_unlikePlaces 0 = .ok (.iconst 0, 1) := by decide +kernel
theorem dX0_unlikePlaces_1 : decode cX0_unlikePlaces 1 = .ok (.istore_n 3, 1) := by decide +kernel
theorem dX0_unlikePlaces_2 : decode cX0_unlikePlaces 2 = .ok (.iconst 0, 1) := by decide +kernel
theorem dX0_unlikePlaces_3 : decode cX0_unlikePlaces 3 = .ok (.istore 4, 2) := by decide +kernel
theorem dX0_unlikePlaces_5 : decode cX0_unlikePlaces 5 = .ok (.iload 4, 2) := by decide +kernel
theorem dX0_unlikePlaces_7 : decode cX0_unlikePlaces 7 = .ok (.bipush 8, 2) := by decide +kernel
theorem dX0_unlikePlaces_9 : decode cX0_unlikePlaces 9 = .ok (.if_icmp .ge 29, 3) := by decide +kernel
theorem dX0_unlikePlaces_12 : decode cX0_unlikePlaces 12 = .ok (.aload_n 0, 1) := by decide +kernel
theorem dX0_unlikePlaces_13 : decode cX0_unlikePlaces 13 = .ok (.iload_n 1, 1) := by decide +kernel
theorem dX0_unlikePlaces_14 : decode cX0_unlikePlaces 14 = .ok (.iload 4, 2) := by decide +kernel
theorem dX0_unlikePlaces_16 : decode cX0_unlikePlaces 16 = .ok (.invokevirtual 41, 3) := by decide +kernel
theorem dX0_unlikePlaces_19 : decode cX0_unlikePlaces 19 = .ok (.aload_n 0, 1) := by decide +kernel
theorem dX0_unlikePlaces_20 : decode cX0_unlikePlaces 20 = .ok (.iload_n 2, 1) := by decide +kernel
theorem dX0_unlikePlaces_21 : decode cX0_unlikePlaces 21 = .ok (.iload 4, 2) := by decide +kernel
theorem dX0_unlikePlaces_23 : decode cX0_unlikePlaces 23 = .ok (.invokevirtual 41, 3) := by decide +kernel
theorem dX0_unlikePlaces_26 : decode cX0_unlikePlaces 26 = .ok (.if_icmp .eq 6, 3) := by decide +kernel
theorem dX0_unlikePlaces_29 : decode cX0_unlikePlaces 29 = .ok (.iinc 3 1, 3) := by decide +kernel
theorem dX0_unlikePlaces_32 : decode cX0_unlikePlaces 32 = .ok (.iinc 4 1, 3) := by decide +kernel
theorem dX0_unlikePlaces_35 : decode cX0_unlikePlaces 35 = .ok (.goto (-30), 3) := by decide +kernel
theorem dX0_unlikePlaces_38 : decode cX0_unlikePlaces 38 = .ok (.iload_n 3, 1) := by decide +kernel
theorem dX0_unlikePlaces_39 : decode cX0_unlikePlaces 39 = .ok (.ireturn, 1) := by decide +kernel
theorem dX0_copyPage_0 : decode cX0_copyPage 0 = .ok (.aload_n 0, 1) := by decide +kernel
theorem dX0_copyPage_1 : decode cX0_copyPage 1 = .ok (.iload_n 1, 1) := by decide +kernel
theorem dX0_copyPage_2 : decode cX0_copyPage 2 = .ok (.iload_n 2, 1) := by decide +kernel
theorem dX0_copyPage_3 : decode cX0_copyPage 3 = .ok (.invokevirtual 54, 3) := by decide +kernel
theorem dX0_copyPage_6 : decode cX0_copyPage 6 = .ok (.istore_n 3, 1) := by decide +kernel
theorem dX0_copyPage_7 : decode cX0_copyPage 7 = .ok (.aload_n 0, 1) := by decide +kernel
theorem dX0_copyPage_8 : decode cX0_copyPage 8 = .ok (.getfield 9, 3) := by decide +kernel
theorem dX0_copyPage_11 : decode cX0_copyPage 11 = .ok (.iload_n 1, 1) := by decide +kernel
theorem dX0_copyPage_12 : decode cX0_copyPage 12 = .ok (.bipush 8, 2) := by decide +kernel
theorem dX0_copyPage_14 : decode cX0_copyPage 14 = .ok (.imul, 1) := by decide +kernel
theorem dX0_copyPage_15 : decode cX0_copyPage 15 = .ok (.aload_n 0, 1) := by decide +kernel
theorem dX0_copyPage_16 : decode cX0_copyPage 16 = .ok (.getfield 9, 3) := by decide +kernel
theorem dX0_copyPage_19 : decode cX0_copyPage 19 = .ok (.iload_n 2, 1) := by decide +kernel
theorem dX0_copyPage_20 : decode cX0_copyPage 20 = .ok (.bipush 8, 2) := by decide +kernel
theorem dX0_copyPage_22 : decode cX0_copyPage 22 = .ok (.imul, 1) := by decide +kernel
theorem dX0_copyPage_23 : decode cX0_copyPage 23 = .ok (.bipush 8, 2) := by decide +kernel
theorem dX0_copyPage_25 : decode cX0_copyPage 25 = .ok (.invokestatic 31, 3) := by decide +kernel
theorem dX0_copyPage_28 : decode cX0_copyPage 28 = .ok (.iload_n 3, 1) := by decide +kernel
theorem dX0_copyPage_29 : decode cX0_copyPage 29 = .ok (.ireturn, 1) := by decide +kernel
theorem dX0_hasPageOf_0 : decode cX0_hasPageOf 0 = .ok (.iconst 0, 1) := by decide +kernel
theorem dX0_hasPageOf_1 : decode cX0_hasPageOf 1 = .ok (.istore_n 3, 1) := by decide +kernel
theorem dX0_hasPageOf_2 : decode cX0_hasPageOf 2 = .ok (.iload_n 3, 1) := by decide +kernel
theorem dX0_hasPageOf_3 : decode cX0_hasPageOf 3 = .ok (.bipush 8, 2) := by decide +kernel
theorem dX0_hasPageOf_5 : decode cX0_hasPageOf 5 = .ok (.if_icmp .ge 26, 3) := by decide +kernel
theorem dX0_hasPageOf_8 : decode cX0_hasPageOf 8 = .ok (.aload_n 0, 1) := by decide +kernel
theorem dX0_hasPageOf_9 : decode cX0_hasPageOf 9 = .ok (.iload_n 2, 1) := by decide +kernel
theorem dX0_hasPageOf_10 : decode cX0_hasPageOf 10 = .ok (.iload_n 3, 1) := by decide +kernel
theorem dX0_hasPageOf_11 : decode cX0_hasPageOf 11 = .ok (.invokevirtual 41, 3) := by decide +kernel
theorem dX0_hasPageOf_14 : decode cX0_hasPageOf 14 = .ok (.aload_n 1, 1) := by decide +kernel
theorem dX0_hasPageOf_15 : decode cX0_hasPageOf 15 = .ok (.iload_n 2, 1) := by decide +kernel
theorem dX0_hasPageOf_16 : decode cX0_hasPageOf 16 = .ok (.iload_n 3, 1) := by decide +kernel
theorem dX0_hasPageOf_17 : decode cX0_hasPageOf 17 = .ok (.invokevirtual 41, 3) := by decide +kernel
theorem dX0_hasPageOf_20 : decode cX0_hasPageOf 20 = .ok (.if_icmp .eq 5, 3) := by decide +kernel
theorem dX0_hasPageOf_23 : decode cX0_hasPageOf 23 = .ok (.iconst 0, 1) := by decide +kernel
theorem dX0_hasPageOf_24 : decode cX0_hasPageOf 24 = .ok (.ireturn, 1) := by decide +kernel
theorem dX0_hasPageOf_25 : decode cX0_hasPageOf 25 = .ok (.iinc 3 1, 3) := by decide +kernel
theorem dX0_hasPageOf_28 : decode cX0_hasPageOf 28 = .ok (.goto (-26), 3) := by decide +kernel
theorem dX0_hasPageOf_31 : decode cX0_hasPageOf 31 = .ok (.iconst 1, 1) := by decide +kernel
theorem dX0_hasPageOf_32 : decode cX0_hasPageOf 32 = .ok (.ireturn, 1) := by decide +kernel
theorem dX0_hasPagesOf_0 : decode cX0_hasPagesOf 0 = .ok (.iconst 0, 1) := by decide +kernel
theorem dX0_hasPagesOf_1 : decode cX0_hasPagesOf 1 = .ok (.istore_n 2, 1) := by decide +kernel
theorem dX0_hasPagesOf_2 : decode cX0_hasPagesOf 2 = .ok (.iload_n 2, 1) := by decide +kernel
theorem dX0_hasPagesOf_3 : decode cX0_hasPagesOf 3 = .ok (.bipush 6, 2) := by decide +kernel
theorem dX0_hasPagesOf_5 : decode cX0_hasPagesOf 5 = .ok (.if_icmp .ge 20, 3) := by decide +kernel
theorem dX0_hasPagesOf_8 : decode cX0_hasPagesOf 8 = .ok (.aload_n 0, 1) := by decide +kernel
theorem dX0_hasPagesOf_9 : decode cX0_hasPagesOf 9 = .ok (.aload_n 1, 1) := by decide +kernel
theorem dX0_hasPagesOf_10 : decode cX0_hasPagesOf 10 = .ok (.iload_n 2, 1) := by decide +kernel
theorem dX0_hasPagesOf_11 : decode cX0_hasPagesOf 11 = .ok (.invokevirtual 57, 3) := by decide +kernel
theorem dX0_hasPagesOf_14 : decode cX0_hasPagesOf 14 = .ok (.ifCond .ne 5, 3) := by decide +kernel
theorem dX0_hasPagesOf_17 : decode cX0_hasPagesOf 17 = .ok (.iconst 0, 1) := by decide +kernel
theorem dX0_hasPagesOf_18 : decode cX0_hasPagesOf 18 = .ok (.ireturn, 1) := by decide +kernel
theorem dX0_hasPagesOf_19 : decode cX0_hasPagesOf 19 = .ok (.iinc 2 1, 3) := by decide +kernel
theorem dX0_hasPagesOf_22 : decode cX0_hasPagesOf 22 = .ok (.goto (-20), 3) := by decide +kernel
theorem dX0_hasPagesOf_25 : decode cX0_hasPagesOf 25 = .ok (.iconst 1, 1) := by decide +kernel
theorem dX0_hasPagesOf_26 : decode cX0_hasPagesOf 26 = .ok (.ireturn, 1) := by decide +kernel
theorem dX0_allHoles_0 : decode cX0_allHoles 0 = .ok (.iconst 0, 1) := by decide +kernel
theorem dX0_allHoles_1 : decode cX0_allHoles 1 = .ok (.istore_n 1, 1) := by decide +kernel
theorem dX0_allHoles_2 : decode cX0_allHoles 2 = .ok (.iconst 0, 1) := by decide +kernel
theorem dX0_allHoles_3 : decode cX0_allHoles 3 = .ok (.istore_n 2, 1) := by decide +kernel
theorem dX0_allHoles_4 : decode cX0_allHoles 4 = .ok (.iload_n 2, 1) := by decide +kernel
theorem dX0_allHoles_5 : decode cX0_allHoles 5 = .ok (.bipush 6, 2) := by decide +kernel
theorem dX0_allHoles_7 : decode cX0_allHoles 7 = .ok (.if_icmp .ge 17, 3) := by decide +kernel
theorem dX0_allHoles_10 : decode cX0_allHoles 10 = .ok (.iload_n 1, 1) := by decide +kernel
theorem dX0_allHoles_11 : decode cX0_allHoles 11 = .ok (.aload_n 0, 1) := by decide +kernel
theorem dX0_allHoles_12 : decode cX0_allHoles 12 = .ok (.iload_n 2, 1) := by decide +kernel
theorem dX0_allHoles_13 : decode cX0_allHoles 13 = .ok (.invokevirtual 61, 3) := by decide +kernel
theorem dX0_allHoles_16 : decode cX0_allHoles 16 = .ok (.iadd, 1) := by decide +kernel
theorem dX0_allHoles_17 : decode cX0_allHoles 17 = .ok (.istore_n 1, 1) := by decide +kernel
theorem dX0_allHoles_18 : decode cX0_allHoles 18 = .ok (.iinc 2 1, 3) := by decide +kernel
theorem dX0_allHoles_21 : decode cX0_allHoles 21 = .ok (.goto (-17), 3) := by decide +kernel
theorem dX0_allHoles_24 : decode cX0_allHoles 24 = .ok (.iload_n 1, 1) := by decide +kernel
theorem dX0_allHoles_25 : decode cX0_allHoles 25 = .ok (.ireturn, 1) := by decide +kernel
theorem dX0_allSaid_0 : decode cX0_allSaid 0 = .ok (.iconst 0, 1) := by decide +kernel
theorem dX0_allSaid_1 : decode cX0_allSaid 1 = .ok (.istore_n 1, 1) := by decide +kernel
theorem dX0_allSaid_2 : decode cX0_allSaid 2 = .ok (.iconst 0, 1) := by decide +kernel
theorem dX0_allSaid_3 : decode cX0_allSaid 3 = .ok (.istore_n 2, 1) := by decide +kernel
theorem dX0_allSaid_4 : decode cX0_allSaid 4 = .ok (.iload_n 2, 1) := by decide +kernel
theorem dX0_allSaid_5 : decode cX0_allSaid 5 = .ok (.bipush 6, 2) := by decide +kernel
theorem dX0_allSaid_7 : decode cX0_allSaid 7 = .ok (.if_icmp .ge 17, 3) := by decide +kernel
theorem dX0_allSaid_10 : decode cX0_allSaid 10 = .ok (.iload_n 1, 1) := by decide +kernel
theorem dX0_allSaid_11 : decode cX0_allSaid 11 = .ok (.aload_n 0, 1) := by decide +kernel
theorem dX0_allSaid_12 : decode cX0_allSaid 12 = .ok (.iload_n 2, 1) := by decide +kernel
theorem dX0_allSaid_13 : decode cX0_allSaid 13 = .ok (.invokevirtual 64, 3) := by decide +kernel
theorem dX0_allSaid_16 : decode cX0_allSaid 16 = .ok (.iadd, 1) := by decide +kernel
theorem dX0_allSaid_17 : decode cX0_allSaid 17 = .ok (.istore_n 1, 1) := by decide +kernel
theorem dX0_allSaid_18 : decode cX0_allSaid 18 = .ok (.iinc 2 1, 3) := by decide +kernel
theorem dX0_allSaid_21 : decode cX0_allSaid 21 = .ok (.goto (-17), 3) := by decide +kernel
theorem dX0_allSaid_24 : decode cX0_allSaid 24 = .ok (.iload_n 1, 1) := by decide +kernel
theorem dX0_allSaid_25 : decode cX0_allSaid 25 = .ok (.ireturn, 1) := by decide +kernel
theorem dX0_barePages_0 : decode cX0_barePages 0 = .ok (.iconst 0, 1) := by decide +kernel
theorem dX0_barePages_1 : decode cX0_barePages 1 = .ok (.istore_n 1, 1) := by decide +kernel
theorem dX0_barePages_2 : decode cX0_barePages 2 = .ok (.iconst 0, 1) := by decide +kernel
theorem dX0_barePages_3 : decode cX0_barePages 3 = .ok (.istore_n 2, 1) := by decide +kernel
theorem dX0_barePages_4 : decode cX0_barePages 4 = .ok (.iload_n 2, 1) := by decide +kernel
theorem dX0_barePages_5 : decode cX0_barePages 5 = .ok (.bipush 6, 2) := by decide +kernel
theorem dX0_barePages_7 : decode cX0_barePages 7 = .ok (.if_icmp .ge 23, 3) := by decide +kernel
theorem dX0_barePages_10 : decode cX0_barePages 10 = .ok (.aload_n 0, 1) := by decide +kernel
theorem dX0_barePages_11 : decode cX0_barePages 11 = .ok (.iload_n 2, 1) := by decide +kernel
theorem dX0_barePages_12 : decode cX0_barePages 12 = .ok (.invokevirtual 67, 3) := by decide +kernel
theorem dX0_barePages_15 : decode cX0_barePages 15 = .ok (.ifCond .eq 9, 3) := by decide +kernel
theorem dX0_barePages_18 : decode cX0_barePages 18 = .ok (.iload_n 1, 1) := by decide +kernel
theorem dX0_barePages_19 : decode cX0_barePages 19 = .ok (.iconst 1, 1) := by decide +kernel
theorem dX0_barePages_20 : decode cX0_barePages 20 = .ok (.iload_n 2, 1) := by decide +kernel
theorem dX0_barePages_21 : decode cX0_barePages 21 = .ok (.ishl, 1) := by decide +kernel
theorem dX0_barePages_22 : decode cX0_barePages 22 = .ok (.ior, 1) := by decide +kernel
theorem dX0_barePages_23 : decode cX0_barePages 23 = .ok (.istore_n 1, 1) := by decide +kernel
theorem dX0_barePages_24 : decode cX0_barePages 24 = .ok (.iinc 2 1, 3) := by decide +kernel
theorem dX0_barePages_27 : decode cX0_barePages 27 = .ok (.goto (-23), 3) := by decide +kernel
theorem dX0_barePages_30 : decode cX0_barePages 30 = .ok (.iload_n 1, 1) := by decide +kernel
theorem dX0_barePages_31 : decode cX0_barePages 31 = .ok (.ireturn, 1) := by decide +kernel
theorem dX0_isFull_0 : decode cX0_isFull 0 = .ok (.aload_n 0, 1) := by decide +kernel
theorem dX0_isFull_1 : decode cX0_isFull 1 = .ok (.getfield 21, 3) := by decide +kernel
theorem dX0_isFull_4 : decode cX0_isFull 4 = .ok (.bipush 8, 2) := by decide +kernel
theorem dX0_isFull_6 : decode cX0_isFull 6 = .ok (.if_icmp .lt 7, 3) := by decide +kernel
theorem dX0_isFull_9 : decode cX0_isFull 9 = .ok (.iconst 1, 1) := by decide +kernel
theorem dX0_isFull_10 : decode cX0_isFull 10 = .ok (.goto 4, 3) := by decide +kernel
theorem dX0_isFull_13 : decode cX0_isFull 13 = .ok (.iconst 0, 1) := by decide +kernel
theorem dX0_isFull_14 : decode cX0_isFull 14 = .ok (.ireturn, 1) := by decide +kernel
theorem dX0_addMoth_0 : decode cX0_addMoth 0 = .ok (.aload_n 0, 1) := by decide +kernel
theorem dX0_addMoth_1 : decode cX0_addMoth 1 = .ok (.getfield 21, 3) := by decide +kernel
theorem dX0_addMoth_4 : decode cX0_addMoth 4 = .ok (.istore_n 3, 1) := by decide +kernel
theorem dX0_addMoth_5 : decode cX0_addMoth 5 = .ok (.aload_n 0, 1) := by decide +kernel
theorem dX0_addMoth_6 : decode cX0_addMoth 6 = .ok (.iload_n 3, 1) := by decide +kernel
theorem dX0_addMoth_7 : decode cX0_addMoth 7 = .ok (.iconst 0, 1) := by decide +kernel
theorem dX0_addMoth_8 : decode cX0_addMoth 8 = .ok (.iload_n 1, 1) := by decide +kernel
theorem dX0_addMoth_9 : decode cX0_addMoth 9 = .ok (.invokevirtual 71, 3) := by decide +kernel
theorem dX0_addMoth_12 : decode cX0_addMoth 12 = .ok (.aload_n 0, 1) := by decide +kernel
theorem dX0_addMoth_13 : decode cX0_addMoth 13 = .ok (.iload_n 3, 1) := by decide +kernel
theorem dX0_addMoth_14 : decode cX0_addMoth 14 = .ok (.iconst 1, 1) := by decide +kernel
theorem dX0_addMoth_15 : decode cX0_addMoth 15 = .ok (.iload_n 2, 1) := by decide +kernel
theorem dX0_addMoth_16 : decode cX0_addMoth 16 = .ok (.invokevirtual 71, 3) := by decide +kernel
theorem dX0_addMoth_19 : decode cX0_addMoth 19 = .ok (.aload_n 0, 1) := by decide +kernel
theorem dX0_addMoth_20 : decode cX0_addMoth 20 = .ok (.iload_n 3, 1) := by decide +kernel
theorem dX0_addMoth_21 : decode cX0_addMoth 21 = .ok (.iconst 2, 1) := by decide +kernel
theorem dX0_addMoth_22 : decode cX0_addMoth 22 = .ok (.iconst 1, 1) := by decide +kernel
theorem dX0_addMoth_23 : decode cX0_addMoth 23 = .ok (.invokevirtual 71, 3) := by decide +kernel
theorem dX0_addMoth_26 : decode cX0_addMoth 26 = .ok (.aload_n 0, 1) := by decide +kernel
theorem dX0_addMoth_27 : decode cX0_addMoth 27 = .ok (.iload_n 3, 1) := by decide +kernel
theorem dX0_addMoth_28 : decode cX0_addMoth 28 = .ok (.iconst 3, 1) := by decide +kernel
theorem dX0_addMoth_29 : decode cX0_addMoth 29 = .ok (.iconst 0, 1) := by decide +kernel
theorem dX0_addMoth_30 : decode cX0_addMoth 30 = .ok (.invokevirtual 71, 3) := by decide +kernel
theorem dX0_addMoth_33 : decode cX0_addMoth 33 = .ok (.aload_n 0, 1) := by decide +kernel
theorem dX0_addMoth_34 : decode cX0_addMoth 34 = .ok (.dup, 1) := by decide +kernel
theorem dX0_addMoth_35 : decode cX0_addMoth 35 = .ok (.getfield 21, 3) := by decide +kernel
theorem dX0_addMoth_38 : decode cX0_addMoth 38 = .ok (.iconst 1, 1) := by decide +kernel
theorem dX0_addMoth_39 : decode cX0_addMoth 39 = .ok (.iadd, 1) := by decide +kernel
theorem dX0_addMoth_40 : decode cX0_addMoth 40 = .ok (.putfield 21, 3) := by decide +kernel
theorem dX0_addMoth_43 : decode cX0_addMoth 43 = .ok (.iload_n 3, 1) := by decide +kernel
theorem dX0_addMoth_44 : decode cX0_addMoth 44 = .ok (.ireturn, 1) := by decide +kernel
theorem dX0_trait_0 : decode cX0_trait 0 = .ok (.aload_n 0, 1) := by decide +kernel
theorem dX0_trait_1 : decode cX0_trait 1 = .ok (.getfield 15, 3) := by decide +kernel
theorem dX0_trait_4 : decode cX0_trait 4 = .ok (.iload_n 1, 1) := by decide +kernel
theorem dX0_trait_5 : decode cX0_trait 5 = .ok (.iconst 4, 1) := by decide +kernel
theorem dX0_trait_6 : decode cX0_trait 6 = .ok (.imul, 1) := by decide +kernel
theorem dX0_trait_7 : decode cX0_trait 7 = .ok (.iload_n 2, 1) := by decide +kernel
theorem dX0_trait_8 : decode cX0_trait 8 = .ok (.iadd, 1) := by decide +kernel
theorem dX0_trait_9 : decode cX0_trait 9 = .ok (.iaload, 1) := by decide +kernel
theorem dX0_trait_10 : decode cX0_trait 10 = .ok (.ireturn, 1) := by decide +kernel
theorem dX0_setTrait_0 : decode cX0_setTrait 0 = .ok (.aload_n 0, 1) := by decide +kernel
theorem dX0_setTrait_1 : decode cX0_setTrait 1 = .ok (.getfield 15, 3) := by decide +kernel
theorem dX0_setTrait_4 : decode cX0_setTrait 4 = .ok (.iload_n 1, 1) := by decide +kernel
theorem dX0_setTrait_5 : decode cX0_setTrait 5 = .ok (.iconst 4, 1) := by decide +kernel
theorem dX0_setTrait_6 : decode cX0_setTrait 6 = .ok (.imul, 1) := by decide +kernel
theorem dX0_setTrait_7 : decode cX0_setTrait 7 = .ok (.iload_n 2, 1) := by decide +kernel
theorem dX0_setTrait_8 : decode cX0_setTrait 8 = .ok (.iadd, 1) := by decide +kernel
theorem dX0_setTrait_9 : decode cX0_setTrait 9 = .ok (.iload_n 3, 1) := by decide +kernel
theorem dX0_setTrait_10 : decode cX0_setTrait 10 = .ok (.iastore, 1) := by decide +kernel
theorem dX0_setTrait_11 : decode cX0_setTrait 11 = .ok (.return_, 1) := by decide +kernel
theorem dX0_swapPages_0 : decode cX0_swapPages 0 = .ok (.aload_n 0, 1) := by decide +kernel
theorem dX0_swapPages_1 : decode cX0_swapPages 1 = .ok (.iload_n 1, 1) := by decide +kernel
theorem dX0_swapPages_2 : decode cX0_swapPages 2 = .ok (.iconst 1, 1) := by decide +kernel
theorem dX0_swapPages_3 : decode cX0_swapPages 3 = .ok (.invokevirtual 74, 3) := by decide +kernel
theorem dX0_swapPages_6 : decode cX0_swapPages 6 = .ok (.istore_n 3, 1) := by decide +kernel
theorem dX0_swapPages_7 : decode cX0_swapPages 7 = .ok (.aload_n 0, 1) := by decide +kernel
theorem dX0_swapPages_8 : decode cX0_swapPages 8 = .ok (.iload_n 1, 1) := by decide +kernel
theorem dX0_swapPages_9 : decode cX0_swapPages 9 = .ok (.iconst 1, 1) := by decide +kernel
theorem dX0_swapPages_10 : decode cX0_swapPages 10 = .ok (.aload_n 0, 1) := by decide +kernel
theorem dX0_swapPages_11 : decode cX0_swapPages 11 = .ok (.iload_n 2, 1) := by decide +kernel
theorem dX0_swapPages_12 : decode cX0_swapPages 12 = .ok (.iconst 1, 1) := by decide +kernel
theorem dX0_swapPages_13 : decode cX0_swapPages 13 = .ok (.invokevirtual 74, 3) := by decide +kernel
theorem dX0_swapPages_16 : decode cX0_swapPages 16 = .ok (.invokevirtual 71, 3) := by decide +kernel
theorem dX0_swapPages_19 : decode cX0_swapPages 19 = .ok (.aload_n 0, 1) := by decide +kernel
theorem dX0_swapPages_20 : decode cX0_swapPages 20 = .ok (.iload_n 2, 1) := by decide +kernel
theorem dX0_swapPages_21 : decode cX0_swapPages 21 = .ok (.iconst 1, 1) := by decide +kernel
theorem dX0_swapPages_22 : decode cX0_swapPages 22 = .ok (.iload_n 3, 1) := by decide +kernel
theorem dX0_swapPages_23 : decode cX0_swapPages 23 = .ok (.invokevirtual 71, 3) := by decide +kernel
theorem dX0_swapPages_26 : decode cX0_swapPages 26 = .ok (.return_, 1) := by decide +kernel
theorem dX0_mothsOn_0 : decode cX0_mothsOn 0 = .ok (.iconst 0, 1) := by decide +kernel
theorem dX0_mothsOn_1 : decode cX0_mothsOn 1 = .ok (.istore_n 2, 1) := by decide +kernel
theorem dX0_mothsOn_2 : decode cX0_mothsOn 2 = .ok (.iconst 0, 1) := by decide +kernel
theorem dX0_mothsOn_3 : decode cX0_mothsOn 3 = .ok (.istore_n 3, 1) := by decide +kernel
theorem dX0_mothsOn_4 : decode cX0_mothsOn 4 = .ok (.iload_n 3, 1) := by decide +kernel
theorem dX0_mothsOn_5 : decode cX0_mothsOn 5 = .ok (.aload_n 0, 1) := by decide +kernel
theorem dX0_mothsOn_6 : decode cX0_mothsOn 6 = .ok (.getfield 21, 3) := by decide +kernel
theorem dX0_mothsOn_9 : decode cX0_mothsOn 9 = .ok (.if_icmp .ge 25, 3) := by decide +kernel
theorem dX0_mothsOn_12 : decode cX0_mothsOn 12 = .ok (.aload_n 0, 1) := by decide +kernel
theorem dX0_mothsOn_13 : decode cX0_mothsOn 13 = .ok (.iload_n 3, 1) := by decide +kernel
theorem dX0_mothsOn_14 : decode cX0_mothsOn 14 = .ok (.iconst 1, 1) := by decide +kernel
theorem dX0_mothsOn_15 : decode cX0_mothsOn 15 = .ok (.invokevirtual 74, 3) := by decide +kernel
theorem dX0_mothsOn_18 : decode cX0_mothsOn 18 = .ok (.iload_n 1, 1) := by decide +kernel
theorem dX0_mothsOn_19 : decode cX0_mothsOn 19 = .ok (.if_icmp .ne 9, 3) := by decide +kernel
theorem dX0_mothsOn_22 : decode cX0_mothsOn 22 = .ok (.iload_n 2, 1) := by decide +kernel
theorem dX0_mothsOn_23 : decode cX0_mothsOn 23 = .ok (.iconst 1, 1) := by decide +kernel
theorem dX0_mothsOn_24 : decode cX0_mothsOn 24 = .ok (.iload_n 3, 1) := by decide +kernel
theorem dX0_mothsOn_25 : decode cX0_mothsOn 25 = .ok (.ishl, 1) := by decide +kernel
theorem dX0_mothsOn_26 : decode cX0_mothsOn 26 = .ok (.ior, 1) := by decide +kernel
theorem dX0_mothsOn_27 : decode cX0_mothsOn 27 = .ok (.istore_n 2, 1) := by decide +kernel
theorem dX0_mothsOn_28 : decode cX0_mothsOn 28 = .ok (.iinc 3 1, 3) := by decide +kernel
theorem dX0_mothsOn_31 : decode cX0_mothsOn 31 = .ok (.goto (-27), 3) := by decide +kernel
theorem dX0_mothsOn_34 : decode cX0_mothsOn 34 = .ok (.iload_n 2, 1) := by decide +kernel
theorem dX0_mothsOn_35 : decode cX0_mothsOn 35 = .ok (.ireturn, 1) := by decide +kernel
theorem dX0_idleMoths_0 : decode cX0_idleMoths 0 = .ok (.iconst 0, 1) := by decide +kernel
theorem dX0_idleMoths_1 : decode cX0_idleMoths 1 = .ok (.istore_n 1, 1) := by decide +kernel
theorem dX0_idleMoths_2 : decode cX0_idleMoths 2 = .ok (.iconst 0, 1) := by decide +kernel
theorem dX0_idleMoths_3 : decode cX0_idleMoths 3 = .ok (.istore_n 2, 1) := by decide +kernel
theorem dX0_idleMoths_4 : decode cX0_idleMoths 4 = .ok (.iload_n 2, 1) := by decide +kernel
theorem dX0_idleMoths_5 : decode cX0_idleMoths 5 = .ok (.aload_n 0, 1) := by decide +kernel
theorem dX0_idleMoths_6 : decode cX0_idleMoths 6 = .ok (.getfield 21, 3) := by decide +kernel
theorem dX0_idleMoths_9 : decode cX0_idleMoths 9 = .ok (.if_icmp .ge 24, 3) := by decide +kernel
theorem dX0_idleMoths_12 : decode cX0_idleMoths 12 = .ok (.aload_n 0, 1) := by decide +kernel
theorem dX0_idleMoths_13 : decode cX0_idleMoths 13 = .ok (.iload_n 2, 1) := by decide +kernel
theorem dX0_idleMoths_14 : decode cX0_idleMoths 14 = .ok (.invokevirtual 77, 3) := by decide +kernel
theorem dX0_idleMoths_17 : decode cX0_idleMoths 17 = .ok (.iconst (-1), 1) := by decide +kernel
theorem dX0_idleMoths_18 : decode cX0_idleMoths 18 = .ok (.if_icmp .ne 9, 3) := by decide +kernel
theorem dX0_idleMoths_21 : decode cX0_idleMoths 21 = .ok (.iload_n 1, 1) := by decide +kernel
theorem dX0_idleMoths_22 : decode cX0_idleMoths 22 = .ok (.iconst 1, 1) := by decide +kernel
theorem dX0_idleMoths_23 : decode cX0_idleMoths 23 = .ok (.iload_n 2, 1) := by decide +kernel
theorem dX0_idleMoths_24 : decode cX0_idleMoths 24 = .ok (.ishl, 1) := by decide +kernel
theorem dX0_idleMoths_25 : decode cX0_idleMoths 25 = .ok (.ior, 1) := by decide +kernel
theorem dX0_idleMoths_26 : decode cX0_idleMoths 26 = .ok (.istore_n 1, 1) := by decide +kernel
theorem dX0_idleMoths_27 : decode cX0_idleMoths 27 = .ok (.iinc 2 1, 3) := by decide +kernel
theorem dX0_idleMoths_30 : decode cX0_idleMoths 30 = .ok (.goto (-26), 3) := by decide +kernel
theorem dX0_idleMoths_33 : decode cX0_idleMoths 33 = .ok (.iload_n 1, 1) := by decide +kernel
theorem dX0_idleMoths_34 : decode cX0_idleMoths 34 = .ok (.ireturn, 1) := by decide +kernel
theorem dX0_allFed_0 : decode cX0_allFed 0 = .ok (.iconst 0, 1) := by decide +kernel
theorem dX0_allFed_1 : decode cX0_allFed 1 = .ok (.istore_n 1, 1) := by decide +kernel
theorem dX0_allFed_2 : decode cX0_allFed 2 = .ok (.iconst 0, 1) := by decide +kernel
theorem dX0_allFed_3 : decode cX0_allFed 3 = .ok (.istore_n 2, 1) := by decide +kernel
theorem dX0_allFed_4 : decode cX0_allFed 4 = .ok (.iload_n 2, 1) := by decide +kernel
theorem dX0_allFed_5 : decode cX0_allFed 5 = .ok (.aload_n 0, 1) := by decide +kernel
theorem dX0_allFed_6 : decode cX0_allFed 6 = .ok (.getfield 21, 3) := by decide +kernel
theorem dX0_allFed_9 : decode cX0_allFed 9 = .ok (.if_icmp .ge 18, 3) := by decide +kernel
theorem dX0_allFed_12 : decode cX0_allFed 12 = .ok (.iload_n 1, 1) := by decide +kernel
theorem dX0_allFed_13 : decode cX0_allFed 13 = .ok (.aload_n 0, 1) := by decide +kernel
theorem dX0_allFed_14 : decode cX0_allFed 14 = .ok (.iload_n 2, 1) := by decide +kernel
theorem dX0_allFed_15 : decode cX0_allFed 15 = .ok (.iconst 3, 1) := by decide +kernel
theorem dX0_allFed_16 : decode cX0_allFed 16 = .ok (.invokevirtual 74, 3) := by decide +kernel
theorem dX0_allFed_19 : decode cX0_allFed 19 = .ok (.iadd, 1) := by decide +kernel
theorem dX0_allFed_20 : decode cX0_allFed 20 = .ok (.istore_n 1, 1) := by decide +kernel
theorem dX0_allFed_21 : decode cX0_allFed 21 = .ok (.iinc 2 1, 3) := by decide +kernel
theorem dX0_allFed_24 : decode cX0_allFed 24 = .ok (.goto (-20), 3) := by decide +kernel
theorem dX0_allFed_27 : decode cX0_allFed 27 = .ok (.iload_n 1, 1) := by decide +kernel
theorem dX0_allFed_28 : decode cX0_allFed 28 = .ok (.ireturn, 1) := by decide +kernel
theorem dX0_heldSpots_0 : decode cX0_heldSpots 0 = .ok (.iconst 0, 1) := by decide +kernel
theorem dX0_heldSpots_1 : decode cX0_heldSpots 1 = .ok (.istore_n 1, 1) := by decide +kernel
theorem dX0_heldSpots_2 : decode cX0_heldSpots 2 = .ok (.iconst 0, 1) := by decide +kernel
theorem dX0_heldSpots_3 : decode cX0_heldSpots 3 = .ok (.istore_n 2, 1) := by decide +kernel
theorem dX0_heldSpots_4 : decode cX0_heldSpots 4 = .ok (.iload_n 2, 1) := by decide +kernel
theorem dX0_heldSpots_5 : decode cX0_heldSpots 5 = .ok (.bipush 10, 2) := by decide +kernel
theorem dX0_heldSpots_7 : decode cX0_heldSpots 7 = .ok (.if_icmp .ge 22, 3) := by decide +kernel
theorem dX0_heldSpots_10 : decode cX0_heldSpots 10 = .ok (.aload_n 0, 1) := by decide +kernel
theorem dX0_heldSpots_11 : decode cX0_heldSpots 11 = .ok (.getfield 18, 3) := by decide +kernel
theorem dX0_heldSpots_14 : decode cX0_heldSpots 14 = .ok (.iload_n 2, 1) := by decide +kernel
theorem dX0_heldSpots_15 : decode cX0_heldSpots 15 = .ok (.iaload, 1) := by decide +kernel
theorem dX0_heldSpots_16 : decode cX0_heldSpots 16 = .ok (.iconst (-1), 1) := by decide +kernel
theorem dX0_heldSpots_17 : decode cX0_heldSpots 17 = .ok (.if_icmp .eq 6, 3) := by decide +kernel
theorem dX0_heldSpots_20 : decode cX0_heldSpots 20 = .ok (.iinc 1 1, 3) := by decide +kernel
theorem dX0_heldSpots_23 : decode cX0_heldSpots 23 = .ok (.iinc 2 1, 3) := by decide +kernel
theorem dX0_heldSpots_26 : decode cX0_heldSpots 26 = .ok (.goto (-22), 3) := by decide +kernel
theorem dX0_heldSpots_29 : decode cX0_heldSpots 29 = .ok (.iload_n 1, 1) := by decide +kernel
theorem dX0_heldSpots_30 : decode cX0_heldSpots 30 = .ok (.ireturn, 1) := by decide +kernel
theorem dX0_bittenPlace_0 : decode cX0_bittenPlace 0 = .ok (.aload_n 0, 1) := by decide +kernel
theorem dX0_bittenPlace_1 : decode cX0_bittenPlace 1 = .ok (.iload_n 1, 1) := by decide +kernel
theorem dX0_bittenPlace_2 : decode cX0_bittenPlace 2 = .ok (.iconst 0, 1) := by decide +kernel
theorem dX0_bittenPlace_3 : decode cX0_bittenPlace 3 = .ok (.invokevirtual 74, 3) := by decide +kernel
theorem dX0_bittenPlace_6 : decode cX0_bittenPlace 6 = .ok (.aload_n 0, 1) := by decide +kernel
theorem dX0_bittenPlace_7 : decode cX0_bittenPlace 7 = .ok (.iload_n 1, 1) := by decide +kernel
theorem dX0_bittenPlace_8 : decode cX0_bittenPlace 8 = .ok (.iconst 2, 1) := by decide +kernel
theorem dX0_bittenPlace_9 : decode cX0_bittenPlace 9 = .ok (.invokevirtual 74, 3) := by decide +kernel
theorem dX0_bittenPlace_12 : decode cX0_bittenPlace 12 = .ok (.aload_n 0, 1) := by decide +kernel
theorem dX0_bittenPlace_13 : decode cX0_bittenPlace 13 = .ok (.iload_n 1, 1) := by decide +kernel
theorem dX0_bittenPlace_14 : decode cX0_bittenPlace 14 = .ok (.iconst 3, 1) := by decide +kernel
theorem dX0_bittenPlace_15 : decode cX0_bittenPlace 15 = .ok (.invokevirtual 74, 3) := by decide +kernel
theorem dX0_bittenPlace_18 : decode cX0_bittenPlace 18 = .ok (.aload_n 0, 1) := by decide +kernel
theorem dX0_bittenPlace_19 : decode cX0_bittenPlace 19 = .ok (.getfield 9, 3) := by decide +kernel
theorem dX0_bittenPlace_22 : decode cX0_bittenPlace 22 = .ok (.aload_n 0, 1) := by decide +kernel
theorem dX0_bittenPlace_23 : decode cX0_bittenPlace 23 = .ok (.iload_n 1, 1) := by decide +kernel
theorem dX0_bittenPlace_24 : decode cX0_bittenPlace 24 = .ok (.iconst 1, 1) := by decide +kernel
theorem dX0_bittenPlace_25 : decode cX0_bittenPlace 25 = .ok (.invokevirtual 74, 3) := by decide +kernel
theorem dX0_bittenPlace_28 : decode cX0_bittenPlace 28 = .ok (.bipush 8, 2) := by decide +kernel
theorem dX0_bittenPlace_30 : decode cX0_bittenPlace 30 = .ok (.imul, 1) := by decide +kernel
theorem dX0_bittenPlace_31 : decode cX0_bittenPlace 31 = .ok (.invokestatic 80, 3) := by decide +kernel
theorem dX0_bittenPlace_34 : decode cX0_bittenPlace 34 = .ok (.ireturn, 1) := by decide +kernel
theorem dX0_bite_0 : decode cX0_bite 0 = .ok (.aload_n 0, 1) := by decide +kernel
theorem dX0_bite_1 : decode cX0_bite 1 = .ok (.iload_n 1, 1) := by decide +kernel
theorem dX0_bite_2 : decode cX0_bite 2 = .ok (.invokevirtual 77, 3) := by decide +kernel
theorem dX0_bite_5 : decode cX0_bite 5 = .ok (.istore_n 2, 1) := by decide +kernel
theorem dX0_bite_6 : decode cX0_bite 6 = .ok (.iload_n 2, 1) := by decide +kernel
theorem dX0_bite_7 : decode cX0_bite 7 = .ok (.iconst (-1), 1) := by decide +kernel
theorem dX0_bite_8 : decode cX0_bite 8 = .ok (.if_icmp .ne 4, 3) := by decide +kernel
theorem dX0_bite_11 : decode cX0_bite 11 = .ok (.return_, 1) := by decide +kernel
theorem dX0_bite_12 : decode cX0_bite 12 = .ok (.aload_n 0, 1) := by decide +kernel
theorem dX0_bite_13 : decode cX0_bite 13 = .ok (.iload_n 1, 1) := by decide +kernel
theorem dX0_bite_14 : decode cX0_bite 14 = .ok (.iconst 0, 1) := by decide +kernel
theorem dX0_bite_15 : decode cX0_bite 15 = .ok (.invokevirtual 74, 3) := by decide +kernel
theorem dX0_bite_18 : decode cX0_bite 18 = .ok (.istore_n 3, 1) := by decide +kernel
theorem dX0_bite_19 : decode cX0_bite 19 = .ok (.aload_n 0, 1) := by decide +kernel
theorem dX0_bite_20 : decode cX0_bite 20 = .ok (.iload_n 1, 1) := by decide +kernel
theorem dX0_bite_21 : decode cX0_bite 21 = .ok (.iconst 1, 1) := by decide +kernel
theorem dX0_bite_22 : decode cX0_bite 22 = .ok (.invokevirtual 74, 3) := by decide +kernel
theorem dX0_bite_25 : decode cX0_bite 25 = .ok (.istore 4, 2) := by decide +kernel
theorem dX0_bite_27 : decode cX0_bite 27 = .ok (.aload_n 0, 1) := by decide +kernel
theorem dX0_bite_28 : decode cX0_bite 28 = .ok (.iload 4, 2) := by decide +kernel
theorem dX0_bite_30 : decode cX0_bite 30 = .ok (.iload_n 2, 1) := by decide +kernel
theorem dX0_bite_31 : decode cX0_bite 31 = .ok (.invokevirtual 41, 3) := by decide +kernel
theorem dX0_bite_34 : decode cX0_bite 34 = .ok (.istore 5, 2) := by decide +kernel
theorem dX0_bite_36 : decode cX0_bite 36 = .ok (.aload_n 0, 1) := by decide +kernel
theorem dX0_bite_37 : decode cX0_bite 37 = .ok (.iload 4, 2) := by decide +kernel
theorem dX0_bite_39 : decode cX0_bite 39 = .ok (.iload_n 2, 1) := by decide +kernel
theorem dX0_bite_40 : decode cX0_bite 40 = .ok (.iload_n 3, 1) := by decide +kernel
theorem dX0_bite_41 : decode cX0_bite 41 = .ok (.iload 5, 2) := by decide +kernel
theorem dX0_bite_43 : decode cX0_bite 43 = .ok (.invokestatic 85, 3) := by decide +kernel
theorem dX0_bite_46 : decode cX0_bite 46 = .ok (.invokevirtual 37, 3) := by decide +kernel
theorem dX0_bite_49 : decode cX0_bite 49 = .ok (.aload_n 0, 1) := by decide +kernel
theorem dX0_bite_50 : decode cX0_bite 50 = .ok (.iload_n 1, 1) := by decide +kernel
theorem dX0_bite_51 : decode cX0_bite 51 = .ok (.iconst 3, 1) := by decide +kernel
theorem dX0_bite_52 : decode cX0_bite 52 = .ok (.invokevirtual 74, 3) := by decide +kernel
theorem dX0_bite_55 : decode cX0_bite 55 = .ok (.iload_n 3, 1) := by decide +kernel
theorem dX0_bite_56 : decode cX0_bite 56 = .ok (.iload 5, 2) := by decide +kernel
theorem dX0_bite_58 : decode cX0_bite 58 = .ok (.invokestatic 88, 3) := by decide +kernel
theorem dX0_bite_61 : decode cX0_bite 61 = .ok (.iadd, 1) := by decide +kernel
theorem dX0_bite_62 : decode cX0_bite 62 = .ok (.istore 6, 2) := by decide +kernel
theorem dX0_bite_64 : decode cX0_bite 64 = .ok (.aload_n 0, 1) := by decide +kernel
theorem dX0_bite_65 : decode cX0_bite 65 = .ok (.iload_n 1, 1) := by decide +kernel
theorem dX0_bite_66 : decode cX0_bite 66 = .ok (.iconst 3, 1) := by decide +kernel
theorem dX0_bite_67 : decode cX0_bite 67 = .ok (.iload 6, 2) := by decide +kernel
theorem dX0_bite_69 : decode cX0_bite 69 = .ok (.sipush 9999, 3) := by decide +kernel
theorem dX0_bite_72 : decode cX0_bite 72 = .ok (.invokestatic 91, 3) := by decide +kernel
theorem dX0_bite_75 : decode cX0_bite 75 = .ok (.invokevirtual 71, 3) := by decide +kernel
theorem dX0_bite_78 : decode cX0_bite 78 = .ok (.return_, 1) := by decide +kernel
theorem dX0_passNights_0 : decode cX0_passNights 0 = .ok (.iconst 0, 1) := by decide +kernel
theorem dX0_passNights_1 : decode cX0_passNights 1 = .ok (.istore_n 3, 1) := by decide +kernel
theorem dX0_passNights_2 : decode cX0_passNights 2 = .ok (.iload_n 3, 1) := by decide +kernel
theorem dX0_passNights_3 : decode cX0_passNights 3 = .ok (.iload_n 1, 1) := by decide +kernel
theorem dX0_passNights_4 : decode cX0_passNights 4 = .ok (.if_icmp .ge 57, 3) := by decide +kernel
theorem dX0_passNights_7 : decode cX0_passNights 7 = .ok (.iconst 0, 1) := by decide +kernel
theorem dX0_passNights_8 : decode cX0_passNights 8 = .ok (.istore 4, 2) := by decide +kernel
theorem dX0_passNights_10 : decode cX0_passNights 10 = .ok (.iload 4, 2) := by decide +kernel
theorem dX0_passNights_12 : decode cX0_passNights 12 = .ok (.aload_n 0, 1) := by decide +kernel
theorem dX0_passNights_13 : decode cX0_passNights 13 = .ok (.getfield 21, 3) := by decide +kernel
theorem dX0_passNights_16 : decode cX0_passNights 16 = .ok (.if_icmp .ge 24, 3) := by decide +kernel
theorem dX0_passNights_19 : decode cX0_passNights 19 = .ok (.iload_n 2, 1) := by decide +kernel
theorem dX0_passNights_20 : decode cX0_passNights 20 = .ok (.iconst 1, 1) := by decide +kernel
theorem dX0_passNights_21 : decode cX0_passNights 21 = .ok (.iload 4, 2) := by decide +kernel
theorem dX0_passNights_23 : decode cX0_passNights 23 = .ok (.ishl, 1) := by decide +kernel
theorem dX0_passNights_24 : decode cX0_passNights 24 = .ok (.iand, 1) := by decide +kernel
theorem dX0_passNights_25 : decode cX0_passNights 25 = .ok (.ifCond .ne 9, 3) := by decide +kernel
theorem dX0_passNights_28 : decode cX0_passNights 28 = .ok (.aload_n 0, 1) := by decide +kernel
theorem dX0_passNights_29 : decode cX0_passNights 29 = .ok (.iload 4, 2) := by decide +kernel
theorem dX0_passNights_31 : decode cX0_passNights 31 = .ok (.invokevirtual 96, 3) := by decide +kernel
theorem dX0_passNights_34 : decode cX0_passNights 34 = .ok (.iinc 4 1, 3) := by decide +kernel
theorem dX0_passNights_37 : decode cX0_passNights 37 = .ok (.goto (-27), 3) := by decide +kernel
theorem dX0_passNights_40 : decode cX0_passNights 40 = .ok (.aload_n 0, 1) := by decide +kernel
theorem dX0_passNights_41 : decode cX0_passNights 41 = .ok (.aload_n 0, 1) := by decide +kernel
theorem dX0_passNights_42 : decode cX0_passNights 42 = .ok (.getfield 25, 3) := by decide +kernel
theorem dX0_passNights_45 : decode cX0_passNights 45 = .ok (.iconst 1, 1) := by decide +kernel
theorem dX0_passNights_46 : decode cX0_passNights 46 = .ok (.iadd, 1) := by decide +kernel
theorem dX0_passNights_47 : decode cX0_passNights 47 = .ok (.ldc 100, 2) := by decide +kernel
theorem dX0_passNights_49 : decode cX0_passNights 49 = .ok (.invokestatic 91, 3) := by decide +kernel
theorem dX0_passNights_52 : decode cX0_passNights 52 = .ok (.putfield 25, 3) := by decide +kernel
theorem dX0_passNights_55 : decode cX0_passNights 55 = .ok (.iinc 3 1, 3) := by decide +kernel
theorem dX0_passNights_58 : decode cX0_passNights 58 = .ok (.goto (-56), 3) := by decide +kernel
theorem dX0_passNights_61 : decode cX0_passNights 61 = .ok (.return_, 1) := by decide +kernel
theorem dX0_draw_0 : decode cX0_draw 0 = .ok (.aload_n 0, 1) := by decide +kernel
theorem dX0_draw_1 : decode cX0_draw 1 = .ok (.aload_n 0, 1) := by decide +kernel
theorem dX0_draw_2 : decode cX0_draw 2 = .ok (.getfield 28, 3) := by decide +kernel
theorem dX0_draw_5 : decode cX0_draw 5 = .ok (.ldc 101, 2) := by decide +kernel
theorem dX0_draw_7 : decode cX0_draw 7 = .ok (.imul, 1) := by decide +kernel
theorem dX0_draw_8 : decode cX0_draw 8 = .ok (.sipush 12345, 3) := by decide +kernel
theorem dX0_draw_11 : decode cX0_draw 11 = .ok (.iadd, 1) := by decide +kernel
theorem dX0_draw_12 : decode cX0_draw 12 = .ok (.putfield 28, 3) := by decide +kernel
theorem dX0_draw_15 : decode cX0_draw 15 = .ok (.aload_n 0, 1) := by decide +kernel
theorem dX0_draw_16 : decode cX0_draw 16 = .ok (.getfield 28, 3) := by decide +kernel
theorem dX0_draw_19 : decode cX0_draw 19 = .ok (.bipush 8, 2) := by decide +kernel
theorem dX0_draw_21 : decode cX0_draw 21 = .ok (.iushr, 1) := by decide +kernel
theorem dX0_draw_22 : decode cX0_draw 22 = .ok (.ireturn, 1) := by decide +kernel
theorem dX0_leaveLightOn_0 : decode cX0_leaveLightOn 0 = .ok (.aload_n 0, 1) := by decide +kernel
theorem dX0_leaveLightOn_1 : decode cX0_leaveLightOn 1 = .ok (.invokevirtual 102, 3) := by decide +kernel
theorem dX0_leaveLightOn_4 : decode cX0_leaveLightOn 4 = .ok (.bipush 8, 2) := by decide +kernel
theorem dX0_leaveLightOn_6 : decode cX0_leaveLightOn 6 = .ok (.irem, 1) := by decide +kernel
theorem dX0_leaveLightOn_7 : decode cX0_leaveLightOn 7 = .ok (.istore_n 1, 1) := by decide +kernel
theorem dX0_leaveLightOn_8 : decode cX0_leaveLightOn 8 = .ok (.aload_n 0, 1) := by decide +kernel
theorem dX0_leaveLightOn_9 : decode cX0_leaveLightOn 9 = .ok (.invokevirtual 102, 3) := by decide +kernel
theorem dX0_leaveLightOn_12 : decode cX0_leaveLightOn 12 = .ok (.bipush 6, 2) := by decide +kernel
theorem dX0_leaveLightOn_14 : decode cX0_leaveLightOn 14 = .ok (.irem, 1) := by decide +kernel
theorem dX0_leaveLightOn_15 : decode cX0_leaveLightOn 15 = .ok (.istore_n 2, 1) := by decide +kernel
theorem dX0_leaveLightOn_16 : decode cX0_leaveLightOn 16 = .ok (.iload_n 1, 1) := by decide +kernel
theorem dX0_leaveLightOn_17 : decode cX0_leaveLightOn 17 = .ok (.aload_n 0, 1) := by decide +kernel
theorem dX0_leaveLightOn_18 : decode cX0_leaveLightOn 18 = .ok (.getfield 21, 3) := by decide +kernel
theorem dX0_leaveLightOn_21 : decode cX0_leaveLightOn 21 = .ok (.if_icmp .ge 10, 3) := by decide +kernel
theorem dX0_leaveLightOn_24 : decode cX0_leaveLightOn 24 = .ok (.aload_n 0, 1) := by decide +kernel
theorem dX0_leaveLightOn_25 : decode cX0_leaveLightOn 25 = .ok (.iload_n 1, 1) := by decide +kernel
theorem dX0_leaveLightOn_26 : decode cX0_leaveLightOn 26 = .ok (.iconst 1, 1) := by decide +kernel
theorem dX0_leaveLightOn_27 : decode cX0_leaveLightOn 27 = .ok (.iload_n 2, 1) := by decide +kernel
theorem dX0_leaveLightOn_28 : decode cX0_leaveLightOn 28 = .ok (.invokevirtual 71, 3) := by decide +kernel
theorem dX0_leaveLightOn_31 : decode cX0_leaveLightOn 31 = .ok (.return_, 1) := by decide +kernel
theorem dX1_isOneOf_0 : decode cX1_isOneOf 0 = .ok (.iload_n 0, 1) := by decide +kernel
theorem dX1_isOneOf_1 : decode cX1_isOneOf 1 = .ok (.istore_n 2, 1) := by decide +kernel
theorem dX1_isOneOf_2 : decode cX1_isOneOf 2 = .ok (.iconst 0, 1) := by decide +kernel
theorem dX1_isOneOf_3 : decode cX1_isOneOf 3 = .ok (.istore_n 3, 1) := by decide +kernel
theorem dX1_isOneOf_4 : decode cX1_isOneOf 4 = .ok (.iload_n 3, 1) := by decide +kernel
theorem dX1_isOneOf_5 : decode cX1_isOneOf 5 = .ok (.bipush 7, 2) := by decide +kernel
theorem dX1_isOneOf_7 : decode cX1_isOneOf 7 = .ok (.if_icmp .ge 26, 3) := by decide +kernel
theorem dX1_isOneOf_10 : decode cX1_isOneOf 10 = .ok (.iload_n 2, 1) := by decide +kernel
theorem dX1_isOneOf_11 : decode cX1_isOneOf 11 = .ok (.ifCond .lt 22, 3) := by decide +kernel
theorem dX1_isOneOf_14 : decode cX1_isOneOf 14 = .ok (.iload_n 2, 1) := by decide +kernel
theorem dX1_isOneOf_15 : decode cX1_isOneOf 15 = .ok (.iload_n 1, 1) := by decide +kernel
theorem dX1_isOneOf_16 : decode cX1_isOneOf 16 = .ok (.if_icmp .ne 5, 3) := by decide +kernel
theorem dX1_isOneOf_19 : decode cX1_isOneOf 19 = .ok (.iconst 1, 1) := by decide +kernel
theorem dX1_isOneOf_20 : decode cX1_isOneOf 20 = .ok (.ireturn, 1) := by decide +kernel
theorem dX1_isOneOf_21 : decode cX1_isOneOf 21 = .ok (.getstatic 9, 3) := by decide +kernel
theorem dX1_isOneOf_24 : decode cX1_isOneOf 24 = .ok (.iload_n 2, 1) := by decide +kernel
theorem dX1_isOneOf_25 : decode cX1_isOneOf 25 = .ok (.iaload, 1) := by decide +kernel
theorem dX1_isOneOf_26 : decode cX1_isOneOf 26 = .ok (.istore_n 2, 1) := by decide +kernel
theorem dX1_isOneOf_27 : decode cX1_isOneOf 27 = .ok (.iinc 3 1, 3) := by decide +kernel
theorem dX1_isOneOf_30 : decode cX1_isOneOf 30 = .ok (.goto (-26), 3) := by decide +kernel
theorem dX1_isOneOf_33 : decode cX1_isOneOf 33 = .ok (.iconst 0, 1) := by decide +kernel
theorem dX1_isOneOf_34 : decode cX1_isOneOf 34 = .ok (.ireturn, 1) := by decide +kernel
theorem dX1_bittenPlace_0 : decode cX1_bittenPlace 0 = .ok (.iload_n 0, 1) := by decide +kernel
theorem dX1_bittenPlace_1 : decode cX1_bittenPlace 1 = .ok (.tableswitch 128 1 6 #[39, 53, 61, 61, 107, 46], 39) := by decide +kernel
theorem dX1_bittenPlace_40 : decode cX1_bittenPlace 40 = .ok (.aload_n 3, 1) := by decide +kernel
theorem dX1_bittenPlace_41 : decode cX1_bittenPlace 41 = .ok (.iload 4, 2) := by decide +kernel
theorem dX1_bittenPlace_43 : decode cX1_bittenPlace 43 = .ok (.invokestatic 15, 3) := by decide +kernel
theorem dX1_bittenPlace_46 : decode cX1_bittenPlace 46 = .ok (.ireturn, 1) := by decide +kernel
theorem dX1_bittenPlace_47 : decode cX1_bittenPlace 47 = .ok (.aload_n 3, 1) := by decide +kernel
theorem dX1_bittenPlace_48 : decode cX1_bittenPlace 48 = .ok (.iload 4, 2) := by decide +kernel
theorem dX1_bittenPlace_50 : decode cX1_bittenPlace 50 = .ok (.invokestatic 19, 3) := by decide +kernel
theorem dX1_bittenPlace_53 : decode cX1_bittenPlace 53 = .ok (.ireturn, 1) := by decide +kernel
theorem dX1_bittenPlace_54 : decode cX1_bittenPlace 54 = .ok (.iload_n 1, 1) := by decide +kernel
theorem dX1_bittenPlace_55 : decode cX1_bittenPlace 55 = .ok (.aload_n 3, 1) := by decide +kernel
theorem dX1_bittenPlace_56 : decode cX1_bittenPlace 56 = .ok (.iload 4, 2) := by decide +kernel
theorem dX1_bittenPlace_58 : decode cX1_bittenPlace 58 = .ok (.invokestatic 22, 3) := by decide +kernel
theorem dX1_bittenPlace_61 : decode cX1_bittenPlace 61 = .ok (.ireturn, 1) := by decide +kernel
theorem dX1_bittenPlace_62 : decode cX1_bittenPlace 62 = .ok (.iload_n 1, 1) := by decide +kernel
theorem dX1_bittenPlace_63 : decode cX1_bittenPlace 63 = .ok (.aload_n 3, 1) := by decide +kernel
theorem dX1_bittenPlace_64 : decode cX1_bittenPlace 64 = .ok (.iload 4, 2) := by decide +kernel
theorem dX1_bittenPlace_66 : decode cX1_bittenPlace 66 = .ok (.invokestatic 22, 3) := by decide +kernel
theorem dX1_bittenPlace_69 : decode cX1_bittenPlace 69 = .ok (.istore 5, 2) := by decide +kernel
theorem dX1_bittenPlace_71 : decode cX1_bittenPlace 71 = .ok (.iload 5, 2) := by decide +kernel
theorem dX1_bittenPlace_73 : decode cX1_bittenPlace 73 = .ok (.iconst (-1), 1) := by decide +kernel
theorem dX1_bittenPlace_74 : decode cX1_bittenPlace 74 = .ok (.if_icmp .eq 17, 3) := by decide +kernel
theorem dX1_bittenPlace_77 : decode cX1_bittenPlace 77 = .ok (.aload_n 3, 1) := by decide +kernel
theorem dX1_bittenPlace_78 : decode cX1_bittenPlace 78 = .ok (.iload 4, 2) := by decide +kernel
theorem dX1_bittenPlace_80 : decode cX1_bittenPlace 80 = .ok (.iload 5, 2) := by decide +kernel
theorem dX1_bittenPlace_82 : decode cX1_bittenPlace 82 = .ok (.iadd, 1) := by decide +kernel
theorem dX1_bittenPlace_83 : decode cX1_bittenPlace 83 = .ok (.iaload, 1) := by decide +kernel
theorem dX1_bittenPlace_84 : decode cX1_bittenPlace 84 = .ok (.iload_n 1, 1) := by decide +kernel
theorem dX1_bittenPlace_85 : decode cX1_bittenPlace 85 = .ok (.if_icmp .lt 6, 3) := by decide +kernel
theorem dX1_bittenPlace_88 : decode cX1_bittenPlace 88 = .ok (.iload 5, 2) := by decide +kernel
theorem dX1_bittenPlace_90 : decode cX1_bittenPlace 90 = .ok (.ireturn, 1) := by decide +kernel
theorem dX1_bittenPlace_91 : decode cX1_bittenPlace 91 = .ok (.iload_n 0, 1) := by decide +kernel
theorem dX1_bittenPlace_92 : decode cX1_bittenPlace 92 = .ok (.iconst 4, 1) := by decide +kernel
theorem dX1_bittenPlace_93 : decode cX1_bittenPlace 93 = .ok (.if_icmp .ne 13, 3) := by decide +kernel
theorem dX1_bittenPlace_96 : decode cX1_bittenPlace 96 = .ok (.iload_n 1, 1) := by decide +kernel
theorem dX1_bittenPlace_97 : decode cX1_bittenPlace 97 = .ok (.aload_n 3, 1) := by decide +kernel
theorem dX1_bittenPlace_98 : decode cX1_bittenPlace 98 = .ok (.iload 4, 2) := by decide +kernel
theorem dX1_bittenPlace_100 : decode cX1_bittenPlace 100 = .ok (.invokestatic 26, 3) := by decide +kernel
theorem dX1_bittenPlace_103 : decode cX1_bittenPlace 103 = .ok (.goto 4, 3) := by decide +kernel
theorem dX1_bittenPlace_106 : decode cX1_bittenPlace 106 = .ok (.iconst (-1), 1) := by decide +kernel
theorem dX1_bittenPlace_107 : decode cX1_bittenPlace 107 = .ok (.ireturn, 1) := by decide +kernel
theorem dX1_bittenPlace_108 : decode cX1_bittenPlace 108 = .ok (.aload_n 3, 1) := by decide +kernel
theorem dX1_bittenPlace_109 : decode cX1_bittenPlace 109 = .ok (.iload 4, 2) := by decide +kernel
theorem dX1_bittenPlace_111 : decode cX1_bittenPlace 111 = .ok (.iload_n 2, 1) := by decide +kernel
theorem dX1_bittenPlace_112 : decode cX1_bittenPlace 112 = .ok (.bipush 8, 2) := by decide +kernel
theorem dX1_bittenPlace_114 : decode cX1_bittenPlace 114 = .ok (.irem, 1) := by decide +kernel
theorem dX1_bittenPlace_115 : decode cX1_bittenPlace 115 = .ok (.iadd, 1) := by decide +kernel
theorem dX1_bittenPlace_116 : decode cX1_bittenPlace 116 = .ok (.iaload, 1) := by decide +kernel
theorem dX1_bittenPlace_117 : decode cX1_bittenPlace 117 = .ok (.ifCond .ne 7, 3) := by decide +kernel
theorem dX1_bittenPlace_120 : decode cX1_bittenPlace 120 = .ok (.iconst (-1), 1) := by decide +kernel
theorem dX1_bittenPlace_121 : decode cX1_bittenPlace 121 = .ok (.goto 7, 3) := by decide +kernel
theorem dX1_bittenPlace_124 : decode cX1_bittenPlace 124 = .ok (.iload_n 2, 1) := by decide +kernel
theorem dX1_bittenPlace_125 : decode cX1_bittenPlace 125 = .ok (.bipush 8, 2) := by decide +kernel
theorem dX1_bittenPlace_127 : decode cX1_bittenPlace 127 = .ok (.irem, 1) := by decide +kernel
theorem dX1_bittenPlace_128 : decode cX1_bittenPlace 128 = .ok (.ireturn, 1) := by decide +kernel
theorem dX1_bittenPlace_129 : decode cX1_bittenPlace 129 = .ok (.iload_n 1, 1) := by decide +kernel
theorem dX1_bittenPlace_130 : decode cX1_bittenPlace 130 = .ok (.aload_n 3, 1) := by decide +kernel
theorem dX1_bittenPlace_131 : decode cX1_bittenPlace 131 = .ok (.iload 4, 2) := by decide +kernel
theorem dX1_bittenPlace_133 : decode cX1_bittenPlace 133 = .ok (.invokestatic 26, 3) := by decide +kernel
theorem dX1_bittenPlace_136 : decode cX1_bittenPlace 136 = .ok (.ireturn, 1) := by decide +kernel
theorem dX1_leftOf_0 : decode cX1_leftOf 0 = .ok (.iload_n 0, 1) := by decide +kernel
theorem dX1_leftOf_1 : decode cX1_leftOf 1 = .ok (.tableswitch 68 1 6 #[39, 51, 56, 61, 68, 43], 39) := by decide +kernel
theorem dX1_leftOf_40 : decode cX1_leftOf 40 = .ok (.iload_n 1, 1) := by decide +kernel
theorem dX1_leftOf_41 : decode cX1_leftOf 41 = .ok (.iconst 1, 1) := by decide +kernel
theorem dX1_leftOf_42 : decode cX1_leftOf 42 = .ok (.isub, 1) := by decide +kernel
theorem dX1_leftOf_43 : decode cX1_leftOf 43 = .ok (.ireturn, 1) := by decide +kernel
theorem dX1_leftOf_44 : decode cX1_leftOf 44 = .ok (.iload_n 1, 1) := by decide +kernel
theorem dX1_leftOf_45 : decode cX1_leftOf 45 = .ok (.iconst 2, 1) := by decide +kernel
theorem dX1_leftOf_46 : decode cX1_leftOf 46 = .ok (.isub, 1) := by decide +kernel
theorem dX1_leftOf_47 : decode cX1_leftOf 47 = .ok (.iconst 0, 1) := by decide +kernel
theorem dX1_leftOf_48 : decode cX1_leftOf 48 = .ok (.invokestatic 29, 3) := by decide +kernel
theorem dX1_leftOf_51 : decode cX1_leftOf 51 = .ok (.ireturn, 1) := by decide +kernel
theorem dX1_leftOf_52 : decode cX1_leftOf 52 = .ok (.bipush 10, 2) := by decide +kernel
theorem dX1_leftOf_54 : decode cX1_leftOf 54 = .ok (.iload_n 1, 1) := by decide +kernel
theorem dX1_leftOf_55 : decode cX1_leftOf 55 = .ok (.isub, 1) := by decide +kernel
theorem dX1_leftOf_56 : decode cX1_leftOf 56 = .ok (.ireturn, 1) := by decide +kernel
theorem dX1_leftOf_57 : decode cX1_leftOf 57 = .ok (.iload_n 1, 1) := by decide +kernel
theorem dX1_leftOf_58 : decode cX1_leftOf 58 = .ok (.invokestatic 35, 3) := by decide +kernel
theorem dX1_leftOf_61 : decode cX1_leftOf 61 = .ok (.ireturn, 1) := by decide +kernel
theorem dX1_leftOf_62 : decode cX1_leftOf 62 = .ok (.iload_n 1, 1) := by decide +kernel
theorem dX1_leftOf_63 : decode cX1_leftOf 63 = .ok (.invokestatic 35, 3) := by decide +kernel
theorem dX1_leftOf_66 : decode cX1_leftOf 66 = .ok (.iconst 2, 1) := by decide +kernel
theorem dX1_leftOf_67 : decode cX1_leftOf 67 = .ok (.idiv, 1) := by decide +kernel
theorem dX1_leftOf_68 : decode cX1_leftOf 68 = .ok (.ireturn, 1) := by decide +kernel
theorem dX1_leftOf_69 : decode cX1_leftOf 69 = .ok (.iconst 0, 1) := by decide +kernel
theorem dX1_leftOf_70 : decode cX1_leftOf 70 = .ok (.ireturn, 1) := by decide +kernel
theorem dX1_gainBy_0 : decode cX1_gainBy 0 = .ok (.iload_n 0, 1) := by decide +kernel
theorem dX1_gainBy_1 : decode cX1_gainBy 1 = .ok (.tableswitch 57 1 6 #[39, 43, 47, 47, 53, 41], 39) := by decide +kernel
theorem dX1_gainBy_40 : decode cX1_gainBy 40 = .ok (.iconst 1, 1) := by decide +kernel
theorem dX1_gainBy_41 : decode cX1_gainBy 41 = .ok (.ireturn, 1) := by decide +kernel
theorem dX1_gainBy_42 : decode cX1_gainBy 42 = .ok (.iconst 2, 1) := by decide +kernel
theorem dX1_gainBy_43 : decode cX1_gainBy 43 = .ok (.ireturn, 1) := by decide +kernel
theorem dX1_gainBy_44 : decode cX1_gainBy 44 = .ok (.iload_n 1, 1) := by decide +kernel
theorem dX1_gainBy_45 : decode cX1_gainBy 45 = .ok (.iconst 2, 1) := by decide +kernel
theorem dX1_gainBy_46 : decode cX1_gainBy 46 = .ok (.idiv, 1) := by decide +kernel
theorem dX1_gainBy_47 : decode cX1_gainBy 47 = .ok (.ireturn, 1) := by decide +kernel
theorem dX1_gainBy_48 : decode cX1_gainBy 48 = .ok (.iload_n 1, 1) := by decide +kernel
theorem dX1_gainBy_49 : decode cX1_gainBy 49 = .ok (.iconst 2, 1) := by decide +kernel
theorem dX1_gainBy_50 : decode cX1_gainBy 50 = .ok (.idiv, 1) := by decide +kernel
theorem dX1_gainBy_51 : decode cX1_gainBy 51 = .ok (.iconst 1, 1) := by decide +kernel
theorem dX1_gainBy_52 : decode cX1_gainBy 52 = .ok (.iadd, 1) := by decide +kernel
theorem dX1_gainBy_53 : decode cX1_gainBy 53 = .ok (.ireturn, 1) := by decide +kernel
theorem dX1_gainBy_54 : decode cX1_gainBy 54 = .ok (.iload_n 1, 1) := by decide +kernel
theorem dX1_gainBy_55 : decode cX1_gainBy 55 = .ok (.iconst 1, 1) := by decide +kernel
theorem dX1_gainBy_56 : decode cX1_gainBy 56 = .ok (.iadd, 1) := by decide +kernel
theorem dX1_gainBy_57 : decode cX1_gainBy 57 = .ok (.ireturn, 1) := by decide +kernel
theorem dX1_gainBy_58 : decode cX1_gainBy 58 = .ok (.iload_n 1, 1) := by decide +kernel
theorem dX1_gainBy_59 : decode cX1_gainBy 59 = .ok (.ireturn, 1) := by decide +kernel
theorem dX1_firstLike_0 : decode cX1_firstLike 0 = .ok (.iconst 0, 1) := by decide +kernel
theorem dX1_firstLike_1 : decode cX1_firstLike 1 = .ok (.istore_n 3, 1) := by decide +kernel
theorem dX1_firstLike_2 : decode cX1_firstLike 2 = .ok (.iload_n 3, 1) := by decide +kernel
theorem dX1_firstLike_3 : decode cX1_firstLike 3 = .ok (.bipush 8, 2) := by decide +kernel
theorem dX1_firstLike_5 : decode cX1_firstLike 5 = .ok (.if_icmp .ge 20, 3) := by decide +kernel
theorem dX1_firstLike_8 : decode cX1_firstLike 8 = .ok (.aload_n 1, 1) := by decide +kernel
theorem dX1_firstLike_9 : decode cX1_firstLike 9 = .ok (.iload_n 2, 1) := by decide +kernel
theorem dX1_firstLike_10 : decode cX1_firstLike 10 = .ok (.iload_n 3, 1) := by decide +kernel
theorem dX1_firstLike_11 : decode cX1_firstLike 11 = .ok (.iadd, 1) := by decide +kernel
theorem dX1_firstLike_12 : decode cX1_firstLike 12 = .ok (.iaload, 1) := by decide +kernel
theorem dX1_firstLike_13 : decode cX1_firstLike 13 = .ok (.iload_n 0, 1) := by decide +kernel
theorem dX1_firstLike_14 : decode cX1_firstLike 14 = .ok (.if_icmp .ne 5, 3) := by decide +kernel
theorem dX1_firstLike_17 : decode cX1_firstLike 17 = .ok (.iload_n 3, 1) := by decide +kernel
theorem dX1_firstLike_18 : decode cX1_firstLike 18 = .ok (.ireturn, 1) := by decide +kernel
theorem dX1_firstLike_19 : decode cX1_firstLike 19 = .ok (.iinc 3 1, 3) := by decide +kernel
theorem dX1_firstLike_22 : decode cX1_firstLike 22 = .ok (.goto (-20), 3) := by decide +kernel
theorem dX1_firstLike_25 : decode cX1_firstLike 25 = .ok (.iconst (-1), 1) := by decide +kernel
theorem dX1_firstLike_26 : decode cX1_firstLike 26 = .ok (.ireturn, 1) := by decide +kernel
theorem dX1_firstWord_0 : decode cX1_firstWord 0 = .ok (.iconst 0, 1) := by decide +kernel
theorem dX1_firstWord_1 : decode cX1_firstWord 1 = .ok (.istore_n 2, 1) := by decide +kernel
theorem dX1_firstWord_2 : decode cX1_firstWord 2 = .ok (.iload_n 2, 1) := by decide +kernel
theorem dX1_firstWord_3 : decode cX1_firstWord 3 = .ok (.bipush 8, 2) := by decide +kernel
theorem dX1_firstWord_5 : decode cX1_firstWord 5 = .ok (.if_icmp .ge 19, 3) := by decide +kernel
theorem dX1_firstWord_8 : decode cX1_firstWord 8 = .ok (.aload_n 0, 1) := by decide +kernel
theorem dX1_firstWord_9 : decode cX1_firstWord 9 = .ok (.iload_n 1, 1) := by decide +kernel
theorem dX1_firstWord_10 : decode cX1_firstWord 10 = .ok (.iload_n 2, 1) := by decide +kernel
theorem dX1_firstWord_11 : decode cX1_firstWord 11 = .ok (.iadd, 1) := by decide +kernel
theorem dX1_firstWord_12 : decode cX1_firstWord 12 = .ok (.iaload, 1) := by decide +kernel
theorem dX1_firstWord_13 : decode cX1_firstWord 13 = .ok (.ifCond .eq 5, 3) := by decide +kernel
theorem dX1_firstWord_16 : decode cX1_firstWord 16 = .ok (.iload_n 2, 1) := by decide +kernel
theorem dX1_firstWord_17 : decode cX1_firstWord 17 = .ok (.ireturn, 1) := by decide +kernel
theorem dX1_firstWord_18 : decode cX1_firstWord 18 = .ok (.iinc 2 1, 3) := by decide +kernel
theorem dX1_firstWord_21 : decode cX1_firstWord 21 = .ok (.goto (-19), 3) := by decide +kernel
theorem dX1_firstWord_24 : decode cX1_firstWord 24 = .ok (.iconst (-1), 1) := by decide +kernel
theorem dX1_firstWord_25 : decode cX1_firstWord 25 = .ok (.ireturn, 1) := by decide +kernel
theorem dX1_lastWord_0 : decode cX1_lastWord 0 = .ok (.bipush 7, 2) := by decide +kernel
theorem dX1_lastWord_2 : decode cX1_lastWord 2 = .ok (.istore_n 2, 1) := by decide +kernel
theorem dX1_lastWord_3 : decode cX1_lastWord 3 = .ok (.iload_n 2, 1) := by decide +kernel
theorem dX1_lastWord_4 : decode cX1_lastWord 4 = .ok (.ifCond .lt 19, 3) := by decide +kernel
theorem dX1_lastWord_7 : decode cX1_lastWord 7 = .ok (.aload_n 0, 1) := by decide +kernel
theorem dX1_lastWord_8 : decode cX1_lastWord 8 = .ok (.iload_n 1, 1) := by decide +kernel
theorem dX1_lastWord_9 : decode cX1_lastWord 9 = .ok (.iload_n 2, 1) := by decide +kernel
theorem dX1_lastWord_10 : decode cX1_lastWord 10 = .ok (.iadd, 1) := by decide +kernel
theorem dX1_lastWord_11 : decode cX1_lastWord 11 = .ok (.iaload, 1) := by decide +kernel
theorem dX1_lastWord_12 : decode cX1_lastWord 12 = .ok (.ifCond .eq 5, 3) := by decide +kernel
theorem dX1_lastWord_15 : decode cX1_lastWord 15 = .ok (.iload_n 2, 1) := by decide +kernel
theorem dX1_lastWord_16 : decode cX1_lastWord 16 = .ok (.ireturn, 1) := by decide +kernel
theorem dX1_lastWord_17 : decode cX1_lastWord 17 = .ok (.iinc 2 (-1), 3) := by decide +kernel
theorem dX1_lastWord_20 : decode cX1_lastWord 20 = .ok (.goto (-17), 3) := by decide +kernel
theorem dX1_lastWord_23 : decode cX1_lastWord 23 = .ok (.iconst (-1), 1) := by decide +kernel
theorem dX1_lastWord_24 : decode cX1_lastWord 24 = .ok (.ireturn, 1) := by decide +kernel
theorem dX1_firstOfParity_0 : decode cX1_firstOfParity 0 = .ok (.iconst 0, 1) := by decide +kernel
theorem dX1_firstOfParity_1 : decode cX1_firstOfParity 1 = .ok (.istore_n 3, 1) := by decide +kernel
theorem dX1_firstOfParity_2 : decode cX1_firstOfParity 2 = .ok (.iload_n 3, 1) := by decide +kernel
theorem dX1_firstOfParity_3 : decode cX1_firstOfParity 3 = .ok (.bipush 8, 2) := by decide +kernel
theorem dX1_firstOfParity_5 : decode cX1_firstOfParity 5 = .ok (.if_icmp .ge 33, 3) := by decide +kernel
theorem dX1_firstOfParity_8 : decode cX1_firstOfParity 8 = .ok (.aload_n 1, 1) := by decide +kernel
theorem dX1_firstOfParity_9 : decode cX1_firstOfParity 9 = .ok (.iload_n 2, 1) := by decide +kernel
theorem dX1_firstOfParity_10 : decode cX1_firstOfParity 10 = .ok (.iload_n 3, 1) := by decide +kernel
theorem dX1_firstOfParity_11 : decode cX1_firstOfParity 11 = .ok (.iadd, 1) := by decide +kernel
theorem dX1_firstOfParity_12 : decode cX1_firstOfParity 12 = .ok (.iaload, 1) := by decide +kernel
theorem dX1_firstOfParity_13 : decode cX1_firstOfParity 13 = .ok (.istore 4, 2) := by decide +kernel
theorem dX1_firstOfParity_15 : decode cX1_firstOfParity 15 = .ok (.iload 4, 2) := by decide +kernel
theorem dX1_firstOfParity_17 : decode cX1_firstOfParity 17 = .ok (.ifCond .eq 15, 3) := by decide +kernel
theorem dX1_firstOfParity_20 : decode cX1_firstOfParity 20 = .ok (.iload 4, 2) := by decide +kernel
theorem dX1_firstOfParity_22 : decode cX1_firstOfParity 22 = .ok (.iconst 2, 1) := by decide +kernel
theorem dX1_firstOfParity_23 : decode cX1_firstOfParity 23 = .ok (.irem, 1) := by decide +kernel
theorem dX1_firstOfParity_24 : decode cX1_firstOfParity 24 = .ok (.iload_n 0, 1) := by decide +kernel
theorem dX1_firstOfParity_25 : decode cX1_firstOfParity 25 = .ok (.iconst 2, 1) := by decide +kernel
theorem dX1_firstOfParity_26 : decode cX1_firstOfParity 26 = .ok (.irem, 1) := by decide +kernel
theorem dX1_firstOfParity_27 : decode cX1_firstOfParity 27 = .ok (.if_icmp .ne 5, 3) := by decide +kernel
theorem dX1_firstOfParity_30 : decode cX1_firstOfParity 30 = .ok (.iload_n 3, 1) := by decide +kernel
theorem dX1_firstOfParity_31 : decode cX1_firstOfParity 31 = .ok (.ireturn, 1) := by decide +kernel
theorem dX1_firstOfParity_32 : decode cX1_firstOfParity 32 = .ok (.iinc 3 1, 3) := by decide +kernel
theorem dX1_firstOfParity_35 : decode cX1_firstOfParity 35 = .ok (.goto (-33), 3) := by decide +kernel
theorem dX1_firstOfParity_38 : decode cX1_firstOfParity 38 = .ok (.iconst (-1), 1) := by decide +kernel
theorem dX1_firstOfParity_39 : decode cX1_firstOfParity 39 = .ok (.ireturn, 1) := by decide +kernel
theorem dX1_learnedLeft_0 : decode cX1_learnedLeft 0 = .ok (.bipush 10, 2) := by decide +kernel
theorem dX1_learnedLeft_2 : decode cX1_learnedLeft 2 = .ok (.iload_n 0, 1) := by decide +kernel
theorem dX1_learnedLeft_3 : decode cX1_learnedLeft 3 = .ok (.isub, 1) := by decide +kernel
theorem dX1_learnedLeft_4 : decode cX1_learnedLeft 4 = .ok (.iconst 1, 1) := by decide +kernel
theorem dX1_learnedLeft_5 : decode cX1_learnedLeft 5 = .ok (.iadd, 1) := by decide +kernel
theorem dX1_learnedLeft_6 : decode cX1_learnedLeft 6 = .ok (.bipush 9, 2) := by decide +kernel
theorem dX1_learnedLeft_8 : decode cX1_learnedLeft 8 = .ok (.invokestatic 39, 3) := by decide +kernel
theorem dX1_learnedLeft_11 : decode cX1_learnedLeft 11 = .ok (.ireturn, 1) := by decide +kernel
theorem dX2_init_0 : decode cX2_init 0 = .ok (.aload_n 0, 1) := by decide +kernel
theorem dX2_init_1 : decode cX2_init 1 = .ok (.invokespecial 3, 3) := by decide +kernel
theorem dX2_init_4 : decode cX2_init 4 = .ok (.aload_n 0, 1) := by decide +kernel
theorem dX2_init_5 : decode cX2_init 5 = .ok (.bipush 40, 2) := by decide +kernel
theorem dX2_init_7 : decode cX2_init 7 = .ok (.newarray .int, 2) := by decide +kernel
theorem dX2_init_9 : decode cX2_init 9 = .ok (.putfield 9, 3) := by decide +kernel
theorem dX2_init_12 : decode cX2_init 12 = .ok (.aload_n 0, 1) := by decide +kernel
theorem dX2_init_13 : decode cX2_init 13 = .ok (.iconst 0, 1) := by decide +kernel
theorem dX2_init_14 : decode cX2_init 14 = .ok (.putfield 15, 3) := by decide +kernel
theorem dX2_init_17 : decode cX2_init 17 = .ok (.aload_n 0, 1) := by decide +kernel
theorem dX2_init_18 : decode cX2_init 18 = .ok (.iconst 0, 1) := by decide +kernel
theorem dX2_init_19 : decode cX2_init 19 = .ok (.putfield 19, 3) := by decide +kernel
theorem dX2_init_22 : decode cX2_init 22 = .ok (.return_, 1) := by decide +kernel
theorem dX2_isMissing_0 : decode cX2_isMissing 0 = .ok (.aload_n 0, 1) := by decide +kernel
theorem dX2_isMissing_1 : decode cX2_isMissing 1 = .ok (.getfield 15, 3) := by decide +kernel
theorem dX2_isMissing_4 : decode cX2_isMissing 4 = .ok (.ifCond .ne 7, 3) := by decide +kernel
theorem dX2_isMissing_7 : decode cX2_isMissing 7 = .ok (.iconst 1, 1) := by decide +kernel
theorem dX2_isMissing_8 : decode cX2_isMissing 8 = .ok (.goto 4, 3) := by decide +kernel
theorem dX2_isMissing_11 : decode cX2_isMissing 11 = .ok (.iconst 0, 1) := by decide +kernel
theorem dX2_isMissing_12 : decode cX2_isMissing 12 = .ok (.ireturn, 1) := by decide +kernel
theorem dX2_make_0 : decode cX2_make 0 = .ok (.aload_n 0, 1) := by decide +kernel
theorem dX2_make_1 : decode cX2_make 1 = .ok (.iload_n 1, 1) := by decide +kernel
theorem dX2_make_2 : decode cX2_make 2 = .ok (.putfield 15, 3) := by decide +kernel
theorem dX2_make_5 : decode cX2_make 5 = .ok (.aload_n 0, 1) := by decide +kernel
theorem dX2_make_6 : decode cX2_make 6 = .ok (.iload_n 1, 1) := by decide +kernel
theorem dX2_make_7 : decode cX2_make 7 = .ok (.ifCond .ne 7, 3) := by decide +kernel
theorem dX2_make_10 : decode cX2_make 10 = .ok (.iconst 0, 1) := by decide +kernel
theorem dX2_make_11 : decode cX2_make 11 = .ok (.goto 4, 3) := by decide +kernel
theorem dX2_make_14 : decode cX2_make 14 = .ok (.iload_n 2, 1) := by decide +kernel
theorem dX2_make_15 : decode cX2_make 15 = .ok (.putfield 19, 3) := by decide +kernel
theorem dX2_make_18 : decode cX2_make 18 = .ok (.iconst 0, 1) := by decide +kernel
theorem dX2_make_19 : decode cX2_make 19 = .ok (.istore_n 3, 1) := by decide +kernel
theorem dX2_make_20 : decode cX2_make 20 = .ok (.iload_n 3, 1) := by decide +kernel
theorem dX2_make_21 : decode cX2_make 21 = .ok (.bipush 40, 2) := by decide +kernel
theorem dX2_make_23 : decode cX2_make 23 = .ok (.if_icmp .ge 16, 3) := by decide +kernel
theorem dX2_make_26 : decode cX2_make 26 = .ok (.aload_n 0, 1) := by decide +kernel
theorem dX2_make_27 : decode cX2_make 27 = .ok (.getfield 9, 3) := by decide +kernel
theorem dX2_make_30 : decode cX2_make 30 = .ok (.iload_n 3, 1) := by decide +kernel
theorem dX2_make_31 : decode cX2_make 31 = .ok (.iconst 0, 1) := by decide +kernel
theorem dX2_make_32 : decode cX2_make 32 = .ok (.iastore, 1) := by decide +kernel
theorem dX2_make_33 : decode cX2_make 33 = .ok (.iinc 3 1, 3) := by decide +kernel
theorem dX2_make_36 : decode cX2_make 36 = .ok (.goto (-16), 3) := by decide +kernel
theorem dX2_make_39 : decode cX2_make 39 = .ok (.return_, 1) := by decide +kernel
theorem dX2_set_0 : decode cX2_set 0 = .ok (.aload_n 0, 1) := by decide +kernel
theorem dX2_set_1 : decode cX2_set 1 = .ok (.getfield 15, 3) := by decide +kernel
theorem dX2_set_4 : decode cX2_set 4 = .ok (.lookupswitch 50 #[(8, 28), (16, 39)], 28) := by decide +kernel
theorem dX2_set_32 : decode cX2_set 32 = .ok (.aload_n 0, 1) := by decide +kernel
theorem dX2_set_33 : decode cX2_set 33 = .ok (.getfield 9, 3) := by decide +kernel
theorem dX2_set_36 : decode cX2_set 36 = .ok (.iload_n 1, 1) := by decide +kernel
theorem dX2_set_37 : decode cX2_set 37 = .ok (.iload_n 2, 1) := by decide +kernel
theorem dX2_set_38 : decode cX2_set 38 = .ok (.i2b, 1) := by decide +kernel
theorem dX2_set_39 : decode cX2_set 39 = .ok (.iastore, 1) := by decide +kernel
theorem dX2_set_40 : decode cX2_set 40 = .ok (.goto 21, 3) := by decide +kernel
theorem dX2_set_43 : decode cX2_set 43 = .ok (.aload_n 0, 1) := by decide +kernel
theorem dX2_set_44 : decode cX2_set 44 = .ok (.getfield 9, 3) := by decide +kernel
theorem dX2_set_47 : decode cX2_set 47 = .ok (.iload_n 1, 1) := by decide +kernel
theorem dX2_set_48 : decode cX2_set 48 = .ok (.iload_n 2, 1) := by decide +kernel
theorem dX2_set_49 : decode cX2_set 49 = .ok (.i2s, 1) := by decide +kernel
theorem dX2_set_50 : decode cX2_set 50 = .ok (.iastore, 1) := by decide +kernel
theorem dX2_set_51 : decode cX2_set 51 = .ok (.goto 10, 3) := by decide +kernel
theorem dX2_set_54 : decode cX2_set 54 = .ok (.aload_n 0, 1) := by decide +kernel
theorem dX2_set_55 : decode cX2_set 55 = .ok (.getfield 9, 3) := by decide +kernel
theorem dX2_set_58 : decode cX2_set 58 = .ok (.iload_n 1, 1) := by decide +kernel
theorem dX2_set_59 : decode cX2_set 59 = .ok (.iload_n 2, 1) := by decide +kernel
theorem dX2_set_60 : decode cX2_set 60 = .ok (.iastore, 1) := by decide +kernel
theorem dX2_set_61 : decode cX2_set 61 = .ok (.return_, 1) := by decide +kernel
theorem dX2_hasRun_0 : decode cX2_hasRun 0 = .ok (.iload_n 1, 1) := by decide +kernel
theorem dX2_hasRun_1 : decode cX2_hasRun 1 = .ok (.ifCond .lt 21, 3) := by decide +kernel
theorem dX2_hasRun_4 : decode cX2_hasRun 4 = .ok (.iload_n 2, 1) := by decide +kernel
theorem dX2_hasRun_5 : decode cX2_hasRun 5 = .ok (.ifCond .lt 17, 3) := by decide +kernel
theorem dX2_hasRun_8 : decode cX2_hasRun 8 = .ok (.iload_n 1, 1) := by decide +kernel
theorem dX2_hasRun_9 : decode cX2_hasRun 9 = .ok (.aload_n 0, 1) := by decide +kernel
theorem dX2_hasRun_10 : decode cX2_hasRun 10 = .ok (.getfield 19, 3) := by decide +kernel
theorem dX2_hasRun_13 : decode cX2_hasRun 13 = .ok (.iload_n 2, 1) := by decide +kernel
theorem dX2_hasRun_14 : decode cX2_hasRun 14 = .ok (.isub, 1) := by decide +kernel
theorem dX2_hasRun_15 : decode cX2_hasRun 15 = .ok (.if_icmp .gt 7, 3) := by decide +kernel
theorem dX2_hasRun_18 : decode cX2_hasRun 18 = .ok (.iconst 1, 1) := by decide +kernel
theorem dX2_hasRun_19 : decode cX2_hasRun 19 = .ok (.goto 4, 3) := by decide +kernel
theorem dX2_hasRun_22 : decode cX2_hasRun 22 = .ok (.iconst 0, 1) := by decide +kernel
theorem dX2_hasRun_23 : decode cX2_hasRun 23 = .ok (.ireturn, 1) := by decide +kernel
theorem dX3_init_0 : decode cX3_init 0 = .ok (.aload_n 0, 1) := by decide +kernel
theorem dX3_init_1 : decode cX3_init 1 = .ok (.invokespecial 3, 3) := by decide +kernel
theorem dX3_init_4 : decode cX3_init 4 = .ok (.aload_n 0, 1) := by decide +kernel
theorem dX3_init_5 : decode cX3_init 5 = .ok (.bipush 120, 2) := by decide +kernel
theorem dX3_init_7 : decode cX3_init 7 = .ok (.newarray .byte, 2) := by decide +kernel
theorem dX3_init_9 : decode cX3_init 9 = .ok (.putfield 9, 3) := by decide +kernel
theorem dX3_init_12 : decode cX3_init 12 = .ok (.aload_n 0, 1) := by decide +kernel
theorem dX3_init_13 : decode cX3_init 13 = .ok (.iconst 0, 1) := by decide +kernel
theorem dX3_init_14 : decode cX3_init 14 = .ok (.putfield 15, 3) := by decide +kernel
theorem dX3_init_17 : decode cX3_init 17 = .ok (.aload_n 0, 1) := by decide +kernel
theorem dX3_init_18 : decode cX3_init 18 = .ok (.iconst 0, 1) := by decide +kernel
theorem dX3_init_19 : decode cX3_init 19 = .ok (.putfield 19, 3) := by decide +kernel
theorem dX3_init_22 : decode cX3_init 22 = .ok (.aload_n 0, 1) := by decide +kernel
theorem dX3_init_23 : decode cX3_init 23 = .ok (.iconst 0, 1) := by decide +kernel
theorem dX3_init_24 : decode cX3_init 24 = .ok (.putfield 22, 3) := by decide +kernel
theorem dX3_init_27 : decode cX3_init 27 = .ok (.aload_n 0, 1) := by decide +kernel
theorem dX3_init_28 : decode cX3_init 28 = .ok (.iconst 0, 1) := by decide +kernel
theorem dX3_init_29 : decode cX3_init 29 = .ok (.putfield 25, 3) := by decide +kernel
theorem dX3_init_32 : decode cX3_init 32 = .ok (.aload_n 0, 1) := by decide +kernel
theorem dX3_init_33 : decode cX3_init 33 = .ok (.iconst 0, 1) := by decide +kernel
theorem dX3_init_34 : decode cX3_init 34 = .ok (.putfield 28, 3) := by decide +kernel
theorem dX3_init_37 : decode cX3_init 37 = .ok (.return_, 1) := by decide +kernel
theorem dX3_append_0 : decode cX3_append 0 = .ok (.aload_n 0, 1) := by decide +kernel
theorem dX3_append_1 : decode cX3_append 1 = .ok (.getfield 15, 3) := by decide +kernel
theorem dX3_append_4 : decode cX3_append 4 = .ok (.bipush 120, 2) := by decide +kernel
theorem dX3_append_6 : decode cX3_append 6 = .ok (.if_icmp .ge 23, 3) := by decide +kernel
theorem dX3_append_9 : decode cX3_append 9 = .ok (.aload_n 0, 1) := by decide +kernel
theorem dX3_append_10 : decode cX3_append 10 = .ok (.getfield 9, 3) := by decide +kernel
theorem dX3_append_13 : decode cX3_append 13 = .ok (.aload_n 0, 1) := by decide +kernel
theorem dX3_append_14 : decode cX3_append 14 = .ok (.getfield 15, 3) := by decide +kernel
theorem dX3_append_17 : decode cX3_append 17 = .ok (.iload_n 1, 1) := by decide +kernel
theorem dX3_append_18 : decode cX3_append 18 = .ok (.bastore, 1) := by decide +kernel
theorem dX3_append_19 : decode cX3_append 19 = .ok (.aload_n 0, 1) := by decide +kernel
theorem dX3_append_20 : decode cX3_append 20 = .ok (.dup, 1) := by decide +kernel
theorem dX3_append_21 : decode cX3_append 21 = .ok (.getfield 15, 3) := by decide +kernel
theorem dX3_append_24 : decode cX3_append 24 = .ok (.iconst 1, 1) := by decide +kernel
theorem dX3_append_25 : decode cX3_append 25 = .ok (.iadd, 1) := by decide +kernel
theorem dX3_append_26 : decode cX3_append 26 = .ok (.putfield 15, 3) := by decide +kernel
theorem dX3_append_29 : decode cX3_append 29 = .ok (.return_, 1) := by decide +kernel
theorem dX3_empty_0 : decode cX3_empty 0 = .ok (.aload_n 0, 1) := by decide +kernel
theorem dX3_empty_1 : decode cX3_empty 1 = .ok (.getfield 15, 3) := by decide +kernel
theorem dX3_empty_4 : decode cX3_empty 4 = .ok (.istore_n 1, 1) := by decide +kernel
theorem dX3_empty_5 : decode cX3_empty 5 = .ok (.aload_n 0, 1) := by decide +kernel
theorem dX3_empty_6 : decode cX3_empty 6 = .ok (.iconst 0, 1) := by decide +kernel
theorem dX3_empty_7 : decode cX3_empty 7 = .ok (.putfield 15, 3) := by decide +kernel
theorem dX3_empty_10 : decode cX3_empty 10 = .ok (.iload_n 1, 1) := by decide +kernel
theorem dX3_empty_11 : decode cX3_empty 11 = .ok (.ireturn, 1) := by decide +kernel
theorem dX3_readInto_0 : decode cX3_readInto 0 = .ok (.aload_n 0, 1) := by decide +kernel
theorem dX3_readInto_1 : decode cX3_readInto 1 = .ok (.iconst 0, 1) := by decide +kernel
theorem dX3_readInto_2 : decode cX3_readInto 2 = .ok (.putfield 25, 3) := by decide +kernel
theorem dX3_readInto_5 : decode cX3_readInto 5 = .ok (.aload_n 0, 1) := by decide +kernel
theorem dX3_readInto_6 : decode cX3_readInto 6 = .ok (.invokevirtual 31, 3) := by decide +kernel
theorem dX3_readInto_9 : decode cX3_readInto 9 = .ok (.iconst 1, 1) := by decide +kernel
theorem dX3_readInto_10 : decode cX3_readInto 10 = .ok (.istore_n 2, 1) := by decide +kernel
theorem dX3_readInto_11 : decode cX3_readInto 11 = .ok (.iload_n 2, 1) := by decide +kernel
theorem dX3_readInto_12 : decode cX3_readInto 12 = .ok (.bipush 120, 2) := by decide +kernel
theorem dX3_readInto_14 : decode cX3_readInto 14 = .ok (.if_icmp .gt 44, 3) := by decide +kernel
theorem dX3_readInto_17 : decode cX3_readInto 17 = .ok (.aload_n 0, 1) := by decide +kernel
theorem dX3_readInto_18 : decode cX3_readInto 18 = .ok (.aload_n 1, 1) := by decide +kernel
theorem dX3_readInto_19 : decode cX3_readInto 19 = .ok (.invokevirtual 34, 3) := by decide +kernel
theorem dX3_readInto_22 : decode cX3_readInto 22 = .ok (.ifCond .ne 6, 3) := by decide +kernel
theorem dX3_readInto_25 : decode cX3_readInto 25 = .ok (.goto 33, 3) := by decide +kernel
theorem dX3_readInto_28 : decode cX3_readInto 28 = .ok (.aload_n 0, 1) := by decide +kernel
theorem dX3_readInto_29 : decode cX3_readInto 29 = .ok (.getfield 19, 3) := by decide +kernel
theorem dX3_readInto_32 : decode cX3_readInto 32 = .ok (.ifCond .ne 5, 3) := by decide +kernel
theorem dX3_readInto_35 : decode cX3_readInto 35 = .ok (.iload_n 2, 1) := by decide +kernel
theorem dX3_readInto_36 : decode cX3_readInto 36 = .ok (.ireturn, 1) := by decide +kernel
theorem dX3_readInto_37 : decode cX3_readInto 37 = .ok (.aload_n 0, 1) := by decide +kernel
theorem dX3_readInto_38 : decode cX3_readInto 38 = .ok (.getfield 19, 3) := by decide +kernel
theorem dX3_readInto_41 : decode cX3_readInto 41 = .ok (.iconst 3, 1) := by decide +kernel
theorem dX3_readInto_42 : decode cX3_readInto 42 = .ok (.if_icmp .eq 6, 3) := by decide +kernel
theorem dX3_readInto_45 : decode cX3_readInto 45 = .ok (.goto 13, 3) := by decide +kernel
theorem dX3_readInto_48 : decode cX3_readInto 48 = .ok (.aload_n 0, 1) := by decide +kernel
theorem dX3_readInto_49 : decode cX3_readInto 49 = .ok (.invokevirtual 31, 3) := by decide +kernel
theorem dX3_readInto_52 : decode cX3_readInto 52 = .ok (.iinc 2 1, 3) := by decide +kernel
theorem dX3_readInto_55 : decode cX3_readInto 55 = .ok (.goto (-44), 3) := by decide +kernel
theorem dX3_readInto_58 : decode cX3_readInto 58 = .ok (.iconst (-1), 1) := by decide +kernel
theorem dX3_readInto_59 : decode cX3_readInto 59 = .ok (.aload_n 0, 1) := by decide +kernel
theorem dX3_readInto_60 : decode cX3_readInto 60 = .ok (.getfield 22, 3) := by decide +kernel
theorem dX3_readInto_63 : decode cX3_readInto 63 = .ok (.isub, 1) := by decide +kernel
theorem dX3_readInto_64 : decode cX3_readInto 64 = .ok (.ireturn, 1) := by decide +kernel
theorem dX3_readItem_0 : decode cX3_readItem 0 = .ok (.aload_n 0, 1) := by decide +kernel
theorem dX3_readItem_1 : decode cX3_readItem 1 = .ok (.ldc 38, 2) := by decide +kernel
theorem dX3_readItem_3 : decode cX3_readItem 3 = .ok (.invokevirtual 40, 3) := by decide +kernel
theorem dX3_readItem_6 : decode cX3_readItem 6 = .ok (.ifCond .eq 9, 3) := by decide +kernel
theorem dX3_readItem_9 : decode cX3_readItem 9 = .ok (.aload_n 0, 1) := by decide +kernel
theorem dX3_readItem_10 : decode cX3_readItem 10 = .ok (.aload_n 1, 1) := by decide +kernel
theorem dX3_readItem_11 : decode cX3_readItem 11 = .ok (.invokevirtual 44, 3) := by decide +kernel
theorem dX3_readItem_14 : decode cX3_readItem 14 = .ok (.ireturn, 1) := by decide +kernel
theorem dX3_readItem_15 : decode cX3_readItem 15 = .ok (.aload_n 0, 1) := by decide +kernel
theorem dX3_readItem_16 : decode cX3_readItem 16 = .ok (.ldc 47, 2) := by decide +kernel
theorem dX3_readItem_18 : decode cX3_readItem 18 = .ok (.invokevirtual 40, 3) := by decide +kernel
theorem dX3_readItem_21 : decode cX3_readItem 21 = .ok (.ifCond .eq 18, 3) := by decide +kernel
theorem dX3_readItem_24 : decode cX3_readItem 24 = .ok (.aload_n 0, 1) := by decide +kernel
theorem dX3_readItem_25 : decode cX3_readItem 25 = .ok (.aload_n 1, 1) := by decide +kernel
theorem dX3_readItem_26 : decode cX3_readItem 26 = .ok (.invokevirtual 49, 3) := by decide +kernel
theorem dX3_readItem_29 : decode cX3_readItem 29 = .ok (.iconst (-1), 1) := by decide +kernel
theorem dX3_readItem_30 : decode cX3_readItem 30 = .ok (.if_icmp .eq 7, 3) := by decide +kernel
theorem dX3_readItem_33 : decode cX3_readItem 33 = .ok (.iconst 1, 1) := by decide +kernel
theorem dX3_readItem_34 : decode cX3_readItem 34 = .ok (.goto 4, 3) := by decide +kernel
theorem dX3_readItem_37 : decode cX3_readItem 37 = .ok (.iconst 0, 1) := by decide +kernel
theorem dX3_readItem_38 : decode cX3_readItem 38 = .ok (.ireturn, 1) := by decide +kernel
theorem dX3_readItem_39 : decode cX3_readItem 39 = .ok (.iconst 0, 1) := by decide +kernel
theorem dX3_readItem_40 : decode cX3_readItem 40 = .ok (.istore_n 2, 1) := by decide +kernel
theorem dX3_readItem_41 : decode cX3_readItem 41 = .ok (.iload_n 2, 1) := by decide +kernel
theorem dX3_readItem_42 : decode cX3_readItem 42 = .ok (.bipush 7, 2) := by decide +kernel
theorem dX3_readItem_44 : decode cX3_readItem 44 = .ok (.if_icmp .ge 27, 3) := by decide +kernel
theorem dX3_readItem_47 : decode cX3_readItem 47 = .ok (.aload_n 0, 1) := by decide +kernel
theorem dX3_readItem_48 : decode cX3_readItem 48 = .ok (.iload_n 2, 1) := by decide +kernel
theorem dX3_readItem_49 : decode cX3_readItem 49 = .ok (.invokestatic 53, 3) := by decide +kernel
theorem dX3_readItem_52 : decode cX3_readItem 52 = .ok (.invokevirtual 40, 3) := by decide +kernel
theorem dX3_readItem_55 : decode cX3_readItem 55 = .ok (.ifCond .eq 10, 3) := by decide +kernel
theorem dX3_readItem_58 : decode cX3_readItem 58 = .ok (.aload_n 0, 1) := by decide +kernel
theorem dX3_readItem_59 : decode cX3_readItem 59 = .ok (.aload_n 1, 1) := by decide +kernel
theorem dX3_readItem_60 : decode cX3_readItem 60 = .ok (.iload_n 2, 1) := by decide +kernel
theorem dX3_readItem_61 : decode cX3_readItem 61 = .ok (.invokevirtual 57, 3) := by decide +kernel
theorem dX3_readItem_64 : decode cX3_readItem 64 = .ok (.ireturn, 1) := by decide +kernel
theorem dX3_readItem_65 : decode cX3_readItem 65 = .ok (.iinc 2 1, 3) := by decide +kernel
theorem dX3_readItem_68 : decode cX3_readItem 68 = .ok (.goto (-27), 3) := by decide +kernel
theorem dX3_readItem_71 : decode cX3_readItem 71 = .ok (.iconst 0, 1) := by decide +kernel
theorem dX3_readItem_72 : decode cX3_readItem 72 = .ok (.ireturn, 1) := by decide +kernel
theorem dX3_readMoth_0 : decode cX3_readMoth 0 = .ok (.aload_n 1, 1) := by decide +kernel
theorem dX3_readMoth_1 : decode cX3_readMoth 1 = .ok (.invokevirtual 61, 3) := by decide +kernel
theorem dX3_readMoth_4 : decode cX3_readMoth 4 = .ok (.ifCond .eq 5, 3) := by decide +kernel
theorem dX3_readMoth_7 : decode cX3_readMoth 7 = .ok (.iconst 0, 1) := by decide +kernel
theorem dX3_readMoth_8 : decode cX3_readMoth 8 = .ok (.ireturn, 1) := by decide +kernel
theorem dX3_readMoth_9 : decode cX3_readMoth 9 = .ok (.aload_n 0, 1) := by decide +kernel
theorem dX3_readMoth_10 : decode cX3_readMoth 10 = .ok (.invokevirtual 31, 3) := by decide +kernel
theorem dX3_readMoth_13 : decode cX3_readMoth 13 = .ok (.aload_n 1, 1) := by decide +kernel
theorem dX3_readMoth_14 : decode cX3_readMoth 14 = .ok (.iload_n 2, 1) := by decide +kernel
theorem dX3_readMoth_15 : decode cX3_readMoth 15 = .ok (.iconst 0, 1) := by decide +kernel
theorem dX3_readMoth_16 : decode cX3_readMoth 16 = .ok (.invokevirtual 67, 3) := by decide +kernel
theorem dX3_readMoth_19 : decode cX3_readMoth 19 = .ok (.istore_n 3, 1) := by decide +kernel
theorem dX3_readMoth_20 : decode cX3_readMoth 20 = .ok (.aload_n 0, 1) := by decide +kernel
theorem dX3_readMoth_21 : decode cX3_readMoth 21 = .ok (.aload_n 1, 1) := by decide +kernel
theorem dX3_readMoth_22 : decode cX3_readMoth 22 = .ok (.iload_n 3, 1) := by decide +kernel
theorem dX3_readMoth_23 : decode cX3_readMoth 23 = .ok (.ldc 71, 2) := by decide +kernel
theorem dX3_readMoth_25 : decode cX3_readMoth 25 = .ok (.iconst 1, 1) := by decide +kernel
theorem dX3_readMoth_26 : decode cX3_readMoth 26 = .ok (.getstatic 73, 3) := by decide +kernel
theorem dX3_readMoth_29 : decode cX3_readMoth 29 = .ok (.iconst 1, 1) := by decide +kernel
theorem dX3_readMoth_30 : decode cX3_readMoth 30 = .ok (.iaload, 1) := by decide +kernel
theorem dX3_readMoth_31 : decode cX3_readMoth 31 = .ok (.invokevirtual 77, 3) := by decide +kernel
theorem dX3_readMoth_34 : decode cX3_readMoth 34 = .ok (.ifCond .eq 39, 3) := by decide +kernel
theorem dX3_readMoth_37 : decode cX3_readMoth 37 = .ok (.aload_n 0, 1) := by decide +kernel
theorem dX3_readMoth_38 : decode cX3_readMoth 38 = .ok (.aload_n 1, 1) := by decide +kernel
theorem dX3_readMoth_39 : decode cX3_readMoth 39 = .ok (.iload_n 3, 1) := by decide +kernel
theorem dX3_readMoth_40 : decode cX3_readMoth 40 = .ok (.ldc 81, 2) := by decide +kernel
theorem dX3_readMoth_42 : decode cX3_readMoth 42 = .ok (.iconst 2, 1) := by decide +kernel
theorem dX3_readMoth_43 : decode cX3_readMoth 43 = .ok (.getstatic 73, 3) := by decide +kernel
theorem dX3_readMoth_46 : decode cX3_readMoth 46 = .ok (.iconst 2, 1) := by decide +kernel
theorem dX3_readMoth_47 : decode cX3_readMoth 47 = .ok (.iaload, 1) := by decide +kernel
theorem dX3_readMoth_48 : decode cX3_readMoth 48 = .ok (.invokevirtual 77, 3) := by decide +kernel
theorem dX3_readMoth_51 : decode cX3_readMoth 51 = .ok (.ifCond .eq 22, 3) := by decide +kernel
theorem dX3_readMoth_54 : decode cX3_readMoth 54 = .ok (.aload_n 0, 1) := by decide +kernel
theorem dX3_readMoth_55 : decode cX3_readMoth 55 = .ok (.aload_n 1, 1) := by decide +kernel
theorem dX3_readMoth_56 : decode cX3_readMoth 56 = .ok (.iload_n 3, 1) := by decide +kernel
theorem dX3_readMoth_57 : decode cX3_readMoth 57 = .ok (.ldc 83, 2) := by decide +kernel
theorem dX3_readMoth_59 : decode cX3_readMoth 59 = .ok (.iconst 3, 1) := by decide +kernel
theorem dX3_readMoth_60 : decode cX3_readMoth 60 = .ok (.sipush 999, 3) := by decide +kernel
theorem dX3_readMoth_63 : decode cX3_readMoth 63 = .ok (.invokevirtual 77, 3) := by decide +kernel
theorem dX3_readMoth_66 : decode cX3_readMoth 66 = .ok (.ifCond .eq 7, 3) := by decide +kernel
theorem dX3_readMoth_69 : decode cX3_readMoth 69 = .ok (.iconst 1, 1) := by decide +kernel
theorem dX3_readMoth_70 : decode cX3_readMoth 70 = .ok (.goto 4, 3) := by decide +kernel
theorem dX3_readMoth_73 : decode cX3_readMoth 73 = .ok (.iconst 0, 1) := by decide +kernel
theorem dX3_readMoth_74 : decode cX3_readMoth 74 = .ok (.ireturn, 1) := by decide +kernel
theorem dX3_readTrait_0 : decode cX3_readTrait 0 = .ok (.aload_n 0, 1) := by decide +kernel
theorem dX3_readTrait_1 : decode cX3_readTrait 1 = .ok (.aload_n 3, 1) := by decide +kernel
theorem dX3_readTrait_2 : decode cX3_readTrait 2 = .ok (.invokevirtual 40, 3) := by decide +kernel
theorem dX3_readTrait_5 : decode cX3_readTrait 5 = .ok (.ifCond .ne 5, 3) := by decide +kernel
theorem dX3_readTrait_8 : decode cX3_readTrait 8 = .ok (.iconst 1, 1) := by decide +kernel
theorem dX3_readTrait_9 : decode cX3_readTrait 9 = .ok (.ireturn, 1) := by decide +kernel
theorem dX3_readTrait_10 : decode cX3_readTrait 10 = .ok (.aload_n 0, 1) := by decide +kernel
theorem dX3_readTrait_11 : decode cX3_readTrait 11 = .ok (.invokevirtual 31, 3) := by decide +kernel
theorem dX3_readTrait_14 : decode cX3_readTrait 14 = .ok (.aload_n 0, 1) := by decide +kernel
theorem dX3_readTrait_15 : decode cX3_readTrait 15 = .ok (.getstatic 85, 3) := by decide +kernel
theorem dX3_readTrait_18 : decode cX3_readTrait 18 = .ok (.iload 4, 2) := by decide +kernel
theorem dX3_readTrait_20 : decode cX3_readTrait 20 = .ok (.iaload, 1) := by decide +kernel
theorem dX3_readTrait_21 : decode cX3_readTrait 21 = .ok (.iload 5, 2) := by decide +kernel
theorem dX3_readTrait_23 : decode cX3_readTrait 23 = .ok (.invokevirtual 88, 3) := by decide +kernel
theorem dX3_readTrait_26 : decode cX3_readTrait 26 = .ok (.istore 6, 2) := by decide +kernel
theorem dX3_readTrait_28 : decode cX3_readTrait 28 = .ok (.iload 6, 2) := by decide +kernel
theorem dX3_readTrait_30 : decode cX3_readTrait 30 = .ok (.iconst (-1), 1) := by decide +kernel
theorem dX3_readTrait_31 : decode cX3_readTrait 31 = .ok (.if_icmp .ne 5, 3) := by decide +kernel
theorem dX3_readTrait_34 : decode cX3_readTrait 34 = .ok (.iconst 0, 1) := by decide +kernel
theorem dX3_readTrait_35 : decode cX3_readTrait 35 = .ok (.ireturn, 1) := by decide +kernel
theorem dX3_readTrait_36 : decode cX3_readTrait 36 = .ok (.aload_n 1, 1) := by decide +kernel
theorem dX3_readTrait_37 : decode cX3_readTrait 37 = .ok (.iload_n 2, 1) := by decide +kernel
theorem dX3_readTrait_38 : decode cX3_readTrait 38 = .ok (.iload 4, 2) := by decide +kernel
theorem dX3_readTrait_40 : decode cX3_readTrait 40 = .ok (.iload 6, 2) := by decide +kernel
theorem dX3_readTrait_42 : decode cX3_readTrait 42 = .ok (.invokevirtual 91, 3) := by decide +kernel
theorem dX3_readTrait_45 : decode cX3_readTrait 45 = .ok (.iconst 1, 1) := by decide +kernel
theorem dX3_readTrait_46 : decode cX3_readTrait 46 = .ok (.ireturn, 1) := by decide +kernel
theorem dX3_readPage_0 : decode cX3_readPage 0 = .ok (.aload_n 0, 1) := by decide +kernel
theorem dX3_readPage_1 : decode cX3_readPage 1 = .ok (.aload_n 1, 1) := by decide +kernel
theorem dX3_readPage_2 : decode cX3_readPage 2 = .ok (.invokevirtual 49, 3) := by decide +kernel
theorem dX3_readPage_5 : decode cX3_readPage 5 = .ok (.istore_n 2, 1) := by decide +kernel
theorem dX3_readPage_6 : decode cX3_readPage 6 = .ok (.iload_n 2, 1) := by decide +kernel
theorem dX3_readPage_7 : decode cX3_readPage 7 = .ok (.iconst (-1), 1) := by decide +kernel
theorem dX3_readPage_8 : decode cX3_readPage 8 = .ok (.if_icmp .ne 5, 3) := by decide +kernel
theorem dX3_readPage_11 : decode cX3_readPage 11 = .ok (.iconst 0, 1) := by decide +kernel
theorem dX3_readPage_12 : decode cX3_readPage 12 = .ok (.ireturn, 1) := by decide +kernel
theorem dX3_readPage_13 : decode cX3_readPage 13 = .ok (.iconst 0, 1) := by decide +kernel
theorem dX3_readPage_14 : decode cX3_readPage 14 = .ok (.istore_n 3, 1) := by decide +kernel
theorem dX3_readPage_15 : decode cX3_readPage 15 = .ok (.iload_n 3, 1) := by decide +kernel
theorem dX3_readPage_16 : decode cX3_readPage 16 = .ok (.bipush 8, 2) := by decide +kernel
theorem dX3_readPage_18 : decode cX3_readPage 18 = .ok (.if_icmp .ge 48, 3) := by decide +kernel
theorem dX3_readPage_21 : decode cX3_readPage 21 = .ok (.iload_n 3, 1) := by decide +kernel
theorem dX3_readPage_22 : decode cX3_readPage 22 = .ok (.ifCond .le 13, 3) := by decide +kernel
theorem dX3_readPage_25 : decode cX3_readPage 25 = .ok (.aload_n 0, 1) := by decide +kernel
theorem dX3_readPage_26 : decode cX3_readPage 26 = .ok (.getfield 19, 3) := by decide +kernel
theorem dX3_readPage_29 : decode cX3_readPage 29 = .ok (.iconst 2, 1) := by decide +kernel
theorem dX3_readPage_30 : decode cX3_readPage 30 = .ok (.if_icmp .eq 5, 3) := by decide +kernel
theorem dX3_readPage_33 : decode cX3_readPage 33 = .ok (.iconst 1, 1) := by decide +kernel
theorem dX3_readPage_34 : decode cX3_readPage 34 = .ok (.ireturn, 1) := by decide +kernel
theorem dX3_readPage_35 : decode cX3_readPage 35 = .ok (.aload_n 0, 1) := by decide +kernel
theorem dX3_readPage_36 : decode cX3_readPage 36 = .ok (.iconst 0, 1) := by decide +kernel
theorem dX3_readPage_37 : decode cX3_readPage 37 = .ok (.bipush 9, 2) := by decide +kernel
theorem dX3_readPage_39 : decode cX3_readPage 39 = .ok (.invokevirtual 88, 3) := by decide +kernel
theorem dX3_readPage_42 : decode cX3_readPage 42 = .ok (.istore 4, 2) := by decide +kernel
theorem dX3_readPage_44 : decode cX3_readPage 44 = .ok (.iload 4, 2) := by decide +kernel
theorem dX3_readPage_46 : decode cX3_readPage 46 = .ok (.iconst (-1), 1) := by decide +kernel
theorem dX3_readPage_47 : decode cX3_readPage 47 = .ok (.if_icmp .ne 5, 3) := by decide +kernel
theorem dX3_readPage_50 : decode cX3_readPage 50 = .ok (.iconst 0, 1) := by decide +kernel
theorem dX3_readPage_51 : decode cX3_readPage 51 = .ok (.ireturn, 1) := by decide +kernel
theorem dX3_readPage_52 : decode cX3_readPage 52 = .ok (.aload_n 1, 1) := by decide +kernel
theorem dX3_readPage_53 : decode cX3_readPage 53 = .ok (.iload_n 2, 1) := by decide +kernel
theorem dX3_readPage_54 : decode cX3_readPage 54 = .ok (.iload_n 3, 1) := by decide +kernel
theorem dX3_readPage_55 : decode cX3_readPage 55 = .ok (.iload 4, 2) := by decide +kernel
theorem dX3_readPage_57 : decode cX3_readPage 57 = .ok (.invokevirtual 95, 3) := by decide +kernel
theorem dX3_readPage_60 : decode cX3_readPage 60 = .ok (.iinc 3 1, 3) := by decide +kernel
theorem dX3_readPage_63 : decode cX3_readPage 63 = .ok (.goto (-48), 3) := by decide +kernel
theorem dX3_readPage_66 : decode cX3_readPage 66 = .ok (.iconst 1, 1) := by decide +kernel
theorem dX3_readPage_67 : decode cX3_readPage 67 = .ok (.ireturn, 1) := by decide +kernel
theorem dX3_takeBarePage_0 : decode cX3_takeBarePage 0 = .ok (.aload_n 0, 1) := by decide +kernel
theorem dX3_takeBarePage_1 : decode cX3_takeBarePage 1 = .ok (.invokevirtual 31, 3) := by decide +kernel
theorem dX3_takeBarePage_4 : decode cX3_takeBarePage 4 = .ok (.aload_n 0, 1) := by decide +kernel
theorem dX3_takeBarePage_5 : decode cX3_takeBarePage 5 = .ok (.iconst 0, 1) := by decide +kernel
theorem dX3_takeBarePage_6 : decode cX3_takeBarePage 6 = .ok (.iconst 5, 1) := by decide +kernel
theorem dX3_takeBarePage_7 : decode cX3_takeBarePage 7 = .ok (.invokevirtual 88, 3) := by decide +kernel
theorem dX3_takeBarePage_10 : decode cX3_takeBarePage 10 = .ok (.istore_n 2, 1) := by decide +kernel
theorem dX3_takeBarePage_11 : decode cX3_takeBarePage 11 = .ok (.iload_n 2, 1) := by decide +kernel
theorem dX3_takeBarePage_12 : decode cX3_takeBarePage 12 = .ok (.iconst (-1), 1) := by decide +kernel
theorem dX3_takeBarePage_13 : decode cX3_takeBarePage 13 = .ok (.if_icmp .eq 8, 3) := by decide +kernel
theorem dX3_takeBarePage_16 : decode cX3_takeBarePage 16 = .ok (.aload_n 1, 1) := by decide +kernel
theorem dX3_takeBarePage_17 : decode cX3_takeBarePage 17 = .ok (.iload_n 2, 1) := by decide +kernel
theorem dX3_takeBarePage_18 : decode cX3_takeBarePage 18 = .ok (.invokevirtual 98, 3) := by decide +kernel
theorem dX3_takeBarePage_21 : decode cX3_takeBarePage 21 = .ok (.iload_n 2, 1) := by decide +kernel
theorem dX3_takeBarePage_22 : decode cX3_takeBarePage 22 = .ok (.ireturn, 1) := by decide +kernel
theorem dX3_takeNumber_0 : decode cX3_takeNumber 0 = .ok (.aload_n 0, 1) := by decide +kernel
theorem dX3_takeNumber_1 : decode cX3_takeNumber 1 = .ok (.getfield 19, 3) := by decide +kernel
theorem dX3_takeNumber_4 : decode cX3_takeNumber 4 = .ok (.iconst 2, 1) := by decide +kernel
theorem dX3_takeNumber_5 : decode cX3_takeNumber 5 = .ok (.if_icmp .ne 15, 3) := by decide +kernel
theorem dX3_takeNumber_8 : decode cX3_takeNumber 8 = .ok (.aload_n 0, 1) := by decide +kernel
theorem dX3_takeNumber_9 : decode cX3_takeNumber 9 = .ok (.getfield 28, 3) := by decide +kernel
theorem dX3_takeNumber_12 : decode cX3_takeNumber 12 = .ok (.iload_n 1, 1) := by decide +kernel
theorem dX3_takeNumber_13 : decode cX3_takeNumber 13 = .ok (.iload_n 2, 1) := by decide +kernel
theorem dX3_takeNumber_14 : decode cX3_takeNumber 14 = .ok (.invokestatic 102, 3) := by decide +kernel
theorem dX3_takeNumber_17 : decode cX3_takeNumber 17 = .ok (.ifCond .ne 5, 3) := by decide +kernel
theorem dX3_takeNumber_20 : decode cX3_takeNumber 20 = .ok (.iconst (-1), 1) := by decide +kernel
theorem dX3_takeNumber_21 : decode cX3_takeNumber 21 = .ok (.ireturn, 1) := by decide +kernel
theorem dX3_takeNumber_22 : decode cX3_takeNumber 22 = .ok (.aload_n 0, 1) := by decide +kernel
theorem dX3_takeNumber_23 : decode cX3_takeNumber 23 = .ok (.getfield 28, 3) := by decide +kernel
theorem dX3_takeNumber_26 : decode cX3_takeNumber 26 = .ok (.istore_n 3, 1) := by decide +kernel
theorem dX3_takeNumber_27 : decode cX3_takeNumber 27 = .ok (.aload_n 0, 1) := by decide +kernel
theorem dX3_takeNumber_28 : decode cX3_takeNumber 28 = .ok (.invokevirtual 31, 3) := by decide +kernel
theorem dX3_takeNumber_31 : decode cX3_takeNumber 31 = .ok (.iload_n 3, 1) := by decide +kernel
theorem dX3_takeNumber_32 : decode cX3_takeNumber 32 = .ok (.ireturn, 1) := by decide +kernel
theorem dX3_isName_0 : decode cX3_isName 0 = .ok (.aload_n 0, 1) := by decide +kernel
theorem dX3_isName_1 : decode cX3_isName 1 = .ok (.getfield 19, 3) := by decide +kernel
theorem dX3_isName_4 : decode cX3_isName 4 = .ok (.iconst 1, 1) := by decide +kernel
theorem dX3_isName_5 : decode cX3_isName 5 = .ok (.if_icmp .ne 19, 3) := by decide +kernel
theorem dX3_isName_8 : decode cX3_isName 8 = .ok (.aload_n 0, 1) := by decide +kernel
theorem dX3_isName_9 : decode cX3_isName 9 = .ok (.getfield 25, 3) := by decide +kernel
theorem dX3_isName_12 : decode cX3_isName 12 = .ok (.aload_n 0, 1) := by decide +kernel
theorem dX3_isName_13 : decode cX3_isName 13 = .ok (.getfield 22, 3) := by decide +kernel
theorem dX3_isName_16 : decode cX3_isName 16 = .ok (.isub, 1) := by decide +kernel
theorem dX3_isName_17 : decode cX3_isName 17 = .ok (.aload_n 1, 1) := by decide +kernel
theorem dX3_isName_18 : decode cX3_isName 18 = .ok (.invokevirtual 106, 3) := by decide +kernel
theorem dX3_isName_21 : decode cX3_isName 21 = .ok (.if_icmp .eq 5, 3) := by decide +kernel
theorem dX3_isName_24 : decode cX3_isName 24 = .ok (.iconst 0, 1) := by decide +kernel
theorem dX3_isName_25 : decode cX3_isName 25 = .ok (.ireturn, 1) := by decide +kernel
theorem dX3_isName_26 : decode cX3_isName 26 = .ok (.iconst 0, 1) := by decide +kernel
theorem dX3_isName_27 : decode cX3_isName 27 = .ok (.istore_n 2, 1) := by decide +kernel
theorem dX3_isName_28 : decode cX3_isName 28 = .ok (.iload_n 2, 1) := by decide +kernel
theorem dX3_isName_29 : decode cX3_isName 29 = .ok (.aload_n 1, 1) := by decide +kernel
theorem dX3_isName_30 : decode cX3_isName 30 = .ok (.invokevirtual 106, 3) := by decide +kernel
theorem dX3_isName_33 : decode cX3_isName 33 = .ok (.if_icmp .ge 30, 3) := by decide +kernel
theorem dX3_isName_36 : decode cX3_isName 36 = .ok (.aload_n 0, 1) := by decide +kernel
theorem dX3_isName_37 : decode cX3_isName 37 = .ok (.getfield 9, 3) := by decide +kernel
theorem dX3_isName_40 : decode cX3_isName 40 = .ok (.aload_n 0, 1) := by decide +kernel
theorem dX3_isName_41 : decode cX3_isName 41 = .ok (.getfield 22, 3) := by decide +kernel
theorem dX3_isName_44 : decode cX3_isName 44 = .ok (.iload_n 2, 1) := by decide +kernel
theorem dX3_isName_45 : decode cX3_isName 45 = .ok (.iadd, 1) := by decide +kernel
theorem dX3_isName_46 : decode cX3_isName 46 = .ok (.baload, 1) := by decide +kernel
theorem dX3_isName_47 : decode cX3_isName 47 = .ok (.aload_n 1, 1) := by decide +kernel
theorem dX3_isName_48 : decode cX3_isName 48 = .ok (.iload_n 2, 1) := by decide +kernel
theorem dX3_isName_49 : decode cX3_isName 49 = .ok (.invokevirtual 112, 3) := by decide +kernel
theorem dX3_isName_52 : decode cX3_isName 52 = .ok (.if_icmp .eq 5, 3) := by decide +kernel
theorem dX3_isName_55 : decode cX3_isName 55 = .ok (.iconst 0, 1) := by decide +kernel
theorem dX3_isName_56 : decode cX3_isName 56 = .ok (.ireturn, 1) := by decide +kernel
theorem dX3_isName_57 : decode cX3_isName 57 = .ok (.iinc 2 1, 3) := by decide +kernel
theorem dX3_isName_60 : decode cX3_isName 60 = .ok (.goto (-32), 3) := by decide +kernel
theorem dX3_isName_63 : decode cX3_isName 63 = .ok (.iconst 1, 1) := by decide +kernel
theorem dX3_isName_64 : decode cX3_isName 64 = .ok (.ireturn, 1) := by decide +kernel
theorem dX3_kindName_0 : decode cX3_kindName 0 = .ok (.iload_n 0, 1) := by decide +kernel
theorem dX3_kindName_1 : decode cX3_kindName 1 = .ok (.tableswitch 57 1 6 #[39, 42, 45, 48, 51, 54], 39) := by decide +kernel
theorem dX3_kindName_40 : decode cX3_kindName 40 = .ok (.ldc 116, 2) := by decide +kernel
theorem dX3_kindName_42 : decode cX3_kindName 42 = .ok (.areturn, 1) := by decide +kernel
theorem dX3_kindName_43 : decode cX3_kindName 43 = .ok (.ldc 118, 2) := by decide +kernel
theorem dX3_kindName_45 : decode cX3_kindName 45 = .ok (.areturn, 1) := by decide +kernel
theorem dX3_kindName_46 : decode cX3_kindName 46 = .ok (.ldc 120, 2) := by decide +kernel
theorem dX3_kindName_48 : decode cX3_kindName 48 = .ok (.areturn, 1) := by decide +kernel
theorem dX3_kindName_49 : decode cX3_kindName 49 = .ok (.ldc 122, 2) := by decide +kernel
theorem dX3_kindName_51 : decode cX3_kindName 51 = .ok (.areturn, 1) := by decide +kernel
theorem dX3_kindName_52 : decode cX3_kindName 52 = .ok (.ldc 124, 2) := by decide +kernel
theorem dX3_kindName_54 : decode cX3_kindName 54 = .ok (.areturn, 1) := by decide +kernel
theorem dX3_kindName_55 : decode cX3_kindName 55 = .ok (.ldc 126, 2) := by decide +kernel
theorem dX3_kindName_57 : decode cX3_kindName 57 = .ok (.areturn, 1) := by decide +kernel
theorem dX3_kindName_58 : decode cX3_kindName 58 = .ok (.ldc 128, 2) := by decide +kernel
theorem dX3_kindName_60 : decode cX3_kindName 60 = .ok (.areturn, 1) := by decide +kernel
theorem dX3_step_0 : decode cX3_step 0 = .ok (.aload_n 0, 1) := by decide +kernel
theorem dX3_step_1 : decode cX3_step 1 = .ok (.aload_n 0, 1) := by decide +kernel
theorem dX3_step_2 : decode cX3_step 2 = .ok (.getfield 25, 3) := by decide +kernel
theorem dX3_step_5 : decode cX3_step 5 = .ok (.putfield 22, 3) := by decide +kernel
theorem dX3_step_8 : decode cX3_step 8 = .ok (.aload_n 0, 1) := by decide +kernel
theorem dX3_step_9 : decode cX3_step 9 = .ok (.getfield 22, 3) := by decide +kernel
theorem dX3_step_12 : decode cX3_step 12 = .ok (.aload_n 0, 1) := by decide +kernel
theorem dX3_step_13 : decode cX3_step 13 = .ok (.getfield 15, 3) := by decide +kernel
theorem dX3_step_16 : decode cX3_step 16 = .ok (.if_icmp .ge 30, 3) := by decide +kernel
theorem dX3_step_19 : decode cX3_step 19 = .ok (.aload_n 0, 1) := by decide +kernel
theorem dX3_step_20 : decode cX3_step 20 = .ok (.getfield 9, 3) := by decide +kernel
theorem dX3_step_23 : decode cX3_step 23 = .ok (.aload_n 0, 1) := by decide +kernel
theorem dX3_step_24 : decode cX3_step 24 = .ok (.getfield 22, 3) := by decide +kernel
theorem dX3_step_27 : decode cX3_step 27 = .ok (.baload, 1) := by decide +kernel
theorem dX3_step_28 : decode cX3_step 28 = .ok (.bipush 32, 2) := by decide +kernel
theorem dX3_step_30 : decode cX3_step 30 = .ok (.if_icmp .ne 16, 3) := by decide +kernel
theorem dX3_step_33 : decode cX3_step 33 = .ok (.aload_n 0, 1) := by decide +kernel
theorem dX3_step_34 : decode cX3_step 34 = .ok (.dup, 1) := by decide +kernel
theorem dX3_step_35 : decode cX3_step 35 = .ok (.getfield 22, 3) := by decide +kernel
theorem dX3_step_38 : decode cX3_step 38 = .ok (.iconst 1, 1) := by decide +kernel
theorem dX3_step_39 : decode cX3_step 39 = .ok (.iadd, 1) := by decide +kernel
theorem dX3_step_40 : decode cX3_step 40 = .ok (.putfield 22, 3) := by decide +kernel
theorem dX3_step_43 : decode cX3_step 43 = .ok (.goto (-35), 3) := by decide +kernel
theorem dX3_step_46 : decode cX3_step 46 = .ok (.aload_n 0, 1) := by decide +kernel
theorem dX3_step_47 : decode cX3_step 47 = .ok (.aload_n 0, 1) := by decide +kernel
theorem dX3_step_48 : decode cX3_step 48 = .ok (.getfield 22, 3) := by decide +kernel
theorem dX3_step_51 : decode cX3_step 51 = .ok (.putfield 25, 3) := by decide +kernel
theorem dX3_step_54 : decode cX3_step 54 = .ok (.aload_n 0, 1) := by decide +kernel
theorem dX3_step_55 : decode cX3_step 55 = .ok (.getfield 25, 3) := by decide +kernel
theorem dX3_step_58 : decode cX3_step 58 = .ok (.aload_n 0, 1) := by decide +kernel
theorem dX3_step_59 : decode cX3_step 59 = .ok (.getfield 15, 3) := by decide +kernel
theorem dX3_step_62 : decode cX3_step 62 = .ok (.if_icmp .ge 44, 3) := by decide +kernel
theorem dX3_step_65 : decode cX3_step 65 = .ok (.aload_n 0, 1) := by decide +kernel
theorem dX3_step_66 : decode cX3_step 66 = .ok (.getfield 9, 3) := by decide +kernel
theorem dX3_step_69 : decode cX3_step 69 = .ok (.aload_n 0, 1) := by decide +kernel
theorem dX3_step_70 : decode cX3_step 70 = .ok (.getfield 25, 3) := by decide +kernel
theorem dX3_step_73 : decode cX3_step 73 = .ok (.baload, 1) := by decide +kernel
theorem dX3_step_74 : decode cX3_step 74 = .ok (.bipush 97, 2) := by decide +kernel
theorem dX3_step_76 : decode cX3_step 76 = .ok (.if_icmp .lt 30, 3) := by decide +kernel
theorem dX3_step_79 : decode cX3_step 79 = .ok (.aload_n 0, 1) := by decide +kernel
theorem dX3_step_80 : decode cX3_step 80 = .ok (.getfield 9, 3) := by decide +kernel
theorem dX3_step_83 : decode cX3_step 83 = .ok (.aload_n 0, 1) := by decide +kernel
theorem dX3_step_84 : decode cX3_step 84 = .ok (.getfield 25, 3) := by decide +kernel
theorem dX3_step_87 : decode cX3_step 87 = .ok (.baload, 1) := by decide +kernel
theorem dX3_step_88 : decode cX3_step 88 = .ok (.bipush 122, 2) := by decide +kernel
theorem dX3_step_90 : decode cX3_step 90 = .ok (.if_icmp .gt 16, 3) := by decide +kernel
theorem dX3_step_93 : decode cX3_step 93 = .ok (.aload_n 0, 1) := by decide +kernel
theorem dX3_step_94 : decode cX3_step 94 = .ok (.dup, 1) := by decide +kernel
theorem dX3_step_95 : decode cX3_step 95 = .ok (.getfield 25, 3) := by decide +kernel
theorem dX3_step_98 : decode cX3_step 98 = .ok (.iconst 1, 1) := by decide +kernel
theorem dX3_step_99 : decode cX3_step 99 = .ok (.iadd, 1) := by decide +kernel
theorem dX3_step_100 : decode cX3_step 100 = .ok (.putfield 25, 3) := by decide +kernel
theorem dX3_step_103 : decode cX3_step 103 = .ok (.goto (-49), 3) := by decide +kernel
theorem dX3_step_106 : decode cX3_step 106 = .ok (.aload_n 0, 1) := by decide +kernel
theorem dX3_step_107 : decode cX3_step 107 = .ok (.getfield 25, 3) := by decide +kernel
theorem dX3_step_110 : decode cX3_step 110 = .ok (.aload_n 0, 1) := by decide +kernel
theorem dX3_step_111 : decode cX3_step 111 = .ok (.getfield 22, 3) := by decide +kernel
theorem dX3_step_114 : decode cX3_step 114 = .ok (.if_icmp .le 9, 3) := by decide +kernel
theorem dX3_step_117 : decode cX3_step 117 = .ok (.aload_n 0, 1) := by decide +kernel
theorem dX3_step_118 : decode cX3_step 118 = .ok (.iconst 1, 1) := by decide +kernel
theorem dX3_step_119 : decode cX3_step 119 = .ok (.putfield 19, 3) := by decide +kernel
theorem dX3_step_122 : decode cX3_step 122 = .ok (.return_, 1) := by decide +kernel
theorem dX3_step_123 : decode cX3_step 123 = .ok (.aload_n 0, 1) := by decide +kernel
theorem dX3_step_124 : decode cX3_step 124 = .ok (.iconst 0, 1) := by decide +kernel
theorem dX3_step_125 : decode cX3_step 125 = .ok (.putfield 28, 3) := by decide +kernel
theorem dX3_step_128 : decode cX3_step 128 = .ok (.aload_n 0, 1) := by decide +kernel
theorem dX3_step_129 : decode cX3_step 129 = .ok (.getfield 25, 3) := by decide +kernel
theorem dX3_step_132 : decode cX3_step 132 = .ok (.aload_n 0, 1) := by decide +kernel
theorem dX3_step_133 : decode cX3_step 133 = .ok (.getfield 15, 3) := by decide +kernel
theorem dX3_step_136 : decode cX3_step 136 = .ok (.if_icmp .ge 78, 3) := by decide +kernel
theorem dX3_step_139 : decode cX3_step 139 = .ok (.aload_n 0, 1) := by decide +kernel
theorem dX3_step_140 : decode cX3_step 140 = .ok (.getfield 9, 3) := by decide +kernel
theorem dX3_step_143 : decode cX3_step 143 = .ok (.aload_n 0, 1) := by decide +kernel
theorem dX3_step_144 : decode cX3_step 144 = .ok (.getfield 25, 3) := by decide +kernel
theorem dX3_step_147 : decode cX3_step 147 = .ok (.baload, 1) := by decide +kernel
theorem dX3_step_148 : decode cX3_step 148 = .ok (.bipush 48, 2) := by decide +kernel
theorem dX3_step_150 : decode cX3_step 150 = .ok (.if_icmp .lt 64, 3) := by decide +kernel
theorem dX3_step_153 : decode cX3_step 153 = .ok (.aload_n 0, 1) := by decide +kernel
theorem dX3_step_154 : decode cX3_step 154 = .ok (.getfield 9, 3) := by decide +kernel
theorem dX3_step_157 : decode cX3_step 157 = .ok (.aload_n 0, 1) := by decide +kernel
theorem dX3_step_158 : decode cX3_step 158 = .ok (.getfield 25, 3) := by decide +kernel
theorem dX3_step_161 : decode cX3_step 161 = .ok (.baload, 1) := by decide +kernel
theorem dX3_step_162 : decode cX3_step 162 = .ok (.bipush 57, 2) := by decide +kernel
theorem dX3_step_164 : decode cX3_step 164 = .ok (.if_icmp .gt 50, 3) := by decide +kernel
theorem dX3_step_167 : decode cX3_step 167 = .ok (.aload_n 0, 1) := by decide +kernel
theorem dX3_step_168 : decode cX3_step 168 = .ok (.getfield 28, 3) := by decide +kernel
theorem dX3_step_171 : decode cX3_step 171 = .ok (.sipush 1000, 3) := by decide +kernel
