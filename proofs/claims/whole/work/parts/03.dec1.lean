theorem dX2_kindOn_15 : decode cX2_kindOn 15 = .ok (.aload_n 2, 1) := by decide +kernel
theorem dX2_kindOn_16 : decode cX2_kindOn 16 = .ok (.getfield 62, 3) := by decide +kernel
theorem dX2_kindOn_19 : decode cX2_kindOn 19 = .ok (.ireturn, 1) := by decide +kernel
theorem dX2_framesOn_0 : decode cX2_framesOn 0 = .ok (.aload_n 0, 1) := by decide +kernel
theorem dX2_framesOn_1 : decode cX2_framesOn 1 = .ok (.getfield 11, 3) := by decide +kernel
theorem dX2_framesOn_4 : decode cX2_framesOn 4 = .ok (.iload_n 1, 1) := by decide +kernel
theorem dX2_framesOn_5 : decode cX2_framesOn 5 = .ok (.aaload, 1) := by decide +kernel
theorem dX2_framesOn_6 : decode cX2_framesOn 6 = .ok (.astore_n 2, 1) := by decide +kernel
theorem dX2_framesOn_7 : decode cX2_framesOn 7 = .ok (.aload_n 2, 1) := by decide +kernel
theorem dX2_framesOn_8 : decode cX2_framesOn 8 = .ok (.ifnull 11, 3) := by decide +kernel
theorem dX2_framesOn_11 : decode cX2_framesOn 11 = .ok (.aload_n 2, 1) := by decide +kernel
theorem dX2_framesOn_12 : decode cX2_framesOn 12 = .ok (.getfield 62, 3) := by decide +kernel
theorem dX2_framesOn_15 : decode cX2_framesOn 15 = .ok (.iconst 5, 1) := by decide +kernel
theorem dX2_framesOn_16 : decode cX2_framesOn 16 = .ok (.if_icmp .ne 7, 3) := by decide +kernel
theorem dX2_framesOn_19 : decode cX2_framesOn 19 = .ok (.iconst (-1), 1) := by decide +kernel
theorem dX2_framesOn_20 : decode cX2_framesOn 20 = .ok (.goto 8, 3) := by decide +kernel
theorem dX2_framesOn_23 : decode cX2_framesOn 23 = .ok (.aload_n 2, 1) := by decide +kernel
theorem dX2_framesOn_24 : decode cX2_framesOn 24 = .ok (.getfield 70, 3) := by decide +kernel
theorem dX2_framesOn_27 : decode cX2_framesOn 27 = .ok (.arraylength, 1) := by decide +kernel
theorem dX2_framesOn_28 : decode cX2_framesOn 28 = .ok (.ireturn, 1) := by decide +kernel
theorem dX2_holdersOf_0 : decode cX2_holdersOf 0 = .ok (.iconst 0, 1) := by decide +kernel
theorem dX2_holdersOf_1 : decode cX2_holdersOf 1 = .ok (.istore_n 2, 1) := by decide +kernel
theorem dX2_holdersOf_2 : decode cX2_holdersOf 2 = .ok (.iconst 0, 1) := by decide +kernel
theorem dX2_holdersOf_3 : decode cX2_holdersOf 3 = .ok (.istore_n 3, 1) := by decide +kernel
theorem dX2_holdersOf_4 : decode cX2_holdersOf 4 = .ok (.iload_n 3, 1) := by decide +kernel
theorem dX2_holdersOf_5 : decode cX2_holdersOf 5 = .ok (.bipush 6, 2) := by decide +kernel
theorem dX2_holdersOf_7 : decode cX2_holdersOf 7 = .ok (.if_icmp .ge 26, 3) := by decide +kernel
theorem dX2_holdersOf_10 : decode cX2_holdersOf 10 = .ok (.aload_n 1, 1) := by decide +kernel
theorem dX2_holdersOf_11 : decode cX2_holdersOf 11 = .ok (.ifnull 16, 3) := by decide +kernel
theorem dX2_holdersOf_14 : decode cX2_holdersOf 14 = .ok (.aload_n 0, 1) := by decide +kernel
theorem dX2_holdersOf_15 : decode cX2_holdersOf 15 = .ok (.getfield 11, 3) := by decide +kernel
theorem dX2_holdersOf_18 : decode cX2_holdersOf 18 = .ok (.iload_n 3, 1) := by decide +kernel
theorem dX2_holdersOf_19 : decode cX2_holdersOf 19 = .ok (.aaload, 1) := by decide +kernel
theorem dX2_holdersOf_20 : decode cX2_holdersOf 20 = .ok (.aload_n 1, 1) := by decide +kernel
theorem dX2_holdersOf_21 : decode cX2_holdersOf 21 = .ok (.if_acmp .ne 6, 3) := by decide +kernel
theorem dX2_holdersOf_24 : decode cX2_holdersOf 24 = .ok (.iinc 2 1, 3) := by decide +kernel
theorem dX2_holdersOf_27 : decode cX2_holdersOf 27 = .ok (.iinc 3 1, 3) := by decide +kernel
theorem dX2_holdersOf_30 : decode cX2_holdersOf 30 = .ok (.goto (-26), 3) := by decide +kernel
theorem dX2_holdersOf_33 : decode cX2_holdersOf 33 = .ok (.iload_n 2, 1) := by decide +kernel
theorem dX2_holdersOf_34 : decode cX2_holdersOf 34 = .ok (.ireturn, 1) := by decide +kernel
theorem dX2_cutAsWritten_0 : decode cX2_cutAsWritten 0 = .ok (.aload_n 0, 1) := by decide +kernel
theorem dX2_cutAsWritten_1 : decode cX2_cutAsWritten 1 = .ok (.getfield 18, 3) := by decide +kernel
theorem dX2_cutAsWritten_4 : decode cX2_cutAsWritten 4 = .ok (.aload_n 0, 1) := by decide +kernel
theorem dX2_cutAsWritten_5 : decode cX2_cutAsWritten 5 = .ok (.getfield 11, 3) := by decide +kernel
theorem dX2_cutAsWritten_8 : decode cX2_cutAsWritten 8 = .ok (.aload_n 0, 1) := by decide +kernel
theorem dX2_cutAsWritten_9 : decode cX2_cutAsWritten 9 = .ok (.getfield 22, 3) := by decide +kernel
theorem dX2_cutAsWritten_12 : decode cX2_cutAsWritten 12 = .ok (.iload_n 1, 1) := by decide +kernel
theorem dX2_cutAsWritten_13 : decode cX2_cutAsWritten 13 = .ok (.iaload, 1) := by decide +kernel
theorem dX2_cutAsWritten_14 : decode cX2_cutAsWritten 14 = .ok (.aaload, 1) := by decide +kernel
theorem dX2_cutAsWritten_15 : decode cX2_cutAsWritten 15 = .ok (.aload_n 0, 1) := by decide +kernel
theorem dX2_cutAsWritten_16 : decode cX2_cutAsWritten 16 = .ok (.getfield 26, 3) := by decide +kernel
theorem dX2_cutAsWritten_19 : decode cX2_cutAsWritten 19 = .ok (.iload_n 1, 1) := by decide +kernel
theorem dX2_cutAsWritten_20 : decode cX2_cutAsWritten 20 = .ok (.iaload, 1) := by decide +kernel
theorem dX2_cutAsWritten_21 : decode cX2_cutAsWritten 21 = .ok (.aload_n 0, 1) := by decide +kernel
theorem dX2_cutAsWritten_22 : decode cX2_cutAsWritten 22 = .ok (.getfield 11, 3) := by decide +kernel
theorem dX2_cutAsWritten_25 : decode cX2_cutAsWritten 25 = .ok (.aload_n 0, 1) := by decide +kernel
theorem dX2_cutAsWritten_26 : decode cX2_cutAsWritten 26 = .ok (.getfield 29, 3) := by decide +kernel
theorem dX2_cutAsWritten_29 : decode cX2_cutAsWritten 29 = .ok (.iload_n 1, 1) := by decide +kernel
theorem dX2_cutAsWritten_30 : decode cX2_cutAsWritten 30 = .ok (.iaload, 1) := by decide +kernel
theorem dX2_cutAsWritten_31 : decode cX2_cutAsWritten 31 = .ok (.aaload, 1) := by decide +kernel
theorem dX2_cutAsWritten_32 : decode cX2_cutAsWritten 32 = .ok (.aload_n 0, 1) := by decide +kernel
theorem dX2_cutAsWritten_33 : decode cX2_cutAsWritten 33 = .ok (.getfield 32, 3) := by decide +kernel
theorem dX2_cutAsWritten_36 : decode cX2_cutAsWritten 36 = .ok (.iload_n 1, 1) := by decide +kernel
theorem dX2_cutAsWritten_37 : decode cX2_cutAsWritten 37 = .ok (.iaload, 1) := by decide +kernel
theorem dX2_cutAsWritten_38 : decode cX2_cutAsWritten 38 = .ok (.aload_n 0, 1) := by decide +kernel
theorem dX2_cutAsWritten_39 : decode cX2_cutAsWritten 39 = .ok (.getfield 35, 3) := by decide +kernel
theorem dX2_cutAsWritten_42 : decode cX2_cutAsWritten 42 = .ok (.iload_n 1, 1) := by decide +kernel
theorem dX2_cutAsWritten_43 : decode cX2_cutAsWritten 43 = .ok (.iaload, 1) := by decide +kernel
theorem dX2_cutAsWritten_44 : decode cX2_cutAsWritten 44 = .ok (.invokevirtual 106, 3) := by decide +kernel
theorem dX2_cutAsWritten_47 : decode cX2_cutAsWritten 47 = .ok (.ireturn, 1) := by decide +kernel
theorem dX2_cutTurned_0 : decode cX2_cutTurned 0 = .ok (.aload_n 0, 1) := by decide +kernel
theorem dX2_cutTurned_1 : decode cX2_cutTurned 1 = .ok (.getfield 18, 3) := by decide +kernel
theorem dX2_cutTurned_4 : decode cX2_cutTurned 4 = .ok (.aload_n 0, 1) := by decide +kernel
theorem dX2_cutTurned_5 : decode cX2_cutTurned 5 = .ok (.getfield 11, 3) := by decide +kernel
theorem dX2_cutTurned_8 : decode cX2_cutTurned 8 = .ok (.aload_n 0, 1) := by decide +kernel
theorem dX2_cutTurned_9 : decode cX2_cutTurned 9 = .ok (.getfield 29, 3) := by decide +kernel
theorem dX2_cutTurned_12 : decode cX2_cutTurned 12 = .ok (.iload_n 1, 1) := by decide +kernel
theorem dX2_cutTurned_13 : decode cX2_cutTurned 13 = .ok (.iaload, 1) := by decide +kernel
theorem dX2_cutTurned_14 : decode cX2_cutTurned 14 = .ok (.aaload, 1) := by decide +kernel
theorem dX2_cutTurned_15 : decode cX2_cutTurned 15 = .ok (.aload_n 0, 1) := by decide +kernel
theorem dX2_cutTurned_16 : decode cX2_cutTurned 16 = .ok (.getfield 32, 3) := by decide +kernel
theorem dX2_cutTurned_19 : decode cX2_cutTurned 19 = .ok (.iload_n 1, 1) := by decide +kernel
theorem dX2_cutTurned_20 : decode cX2_cutTurned 20 = .ok (.iaload, 1) := by decide +kernel
theorem dX2_cutTurned_21 : decode cX2_cutTurned 21 = .ok (.aload_n 0, 1) := by decide +kernel
theorem dX2_cutTurned_22 : decode cX2_cutTurned 22 = .ok (.getfield 11, 3) := by decide +kernel
theorem dX2_cutTurned_25 : decode cX2_cutTurned 25 = .ok (.aload_n 0, 1) := by decide +kernel
theorem dX2_cutTurned_26 : decode cX2_cutTurned 26 = .ok (.getfield 22, 3) := by decide +kernel
theorem dX2_cutTurned_29 : decode cX2_cutTurned 29 = .ok (.iload_n 1, 1) := by decide +kernel
theorem dX2_cutTurned_30 : decode cX2_cutTurned 30 = .ok (.iaload, 1) := by decide +kernel
theorem dX2_cutTurned_31 : decode cX2_cutTurned 31 = .ok (.aaload, 1) := by decide +kernel
theorem dX2_cutTurned_32 : decode cX2_cutTurned 32 = .ok (.aload_n 0, 1) := by decide +kernel
theorem dX2_cutTurned_33 : decode cX2_cutTurned 33 = .ok (.getfield 26, 3) := by decide +kernel
theorem dX2_cutTurned_36 : decode cX2_cutTurned 36 = .ok (.iload_n 1, 1) := by decide +kernel
theorem dX2_cutTurned_37 : decode cX2_cutTurned 37 = .ok (.iaload, 1) := by decide +kernel
theorem dX2_cutTurned_38 : decode cX2_cutTurned 38 = .ok (.aload_n 0, 1) := by decide +kernel
theorem dX2_cutTurned_39 : decode cX2_cutTurned 39 = .ok (.getfield 35, 3) := by decide +kernel
theorem dX2_cutTurned_42 : decode cX2_cutTurned 42 = .ok (.iload_n 1, 1) := by decide +kernel
theorem dX2_cutTurned_43 : decode cX2_cutTurned 43 = .ok (.iaload, 1) := by decide +kernel
theorem dX2_cutTurned_44 : decode cX2_cutTurned 44 = .ok (.invokevirtual 106, 3) := by decide +kernel
theorem dX2_cutTurned_47 : decode cX2_cutTurned 47 = .ok (.ireturn, 1) := by decide +kernel
theorem dX3_init_0 : decode cX3_init 0 = .ok (.aload_n 0, 1) := by decide +kernel
theorem dX3_init_1 : decode cX3_init 1 = .ok (.invokespecial 1, 3) := by decide +kernel
theorem dX3_init_4 : decode cX3_init 4 = .ok (.aload_n 0, 1) := by decide +kernel
theorem dX3_init_5 : decode cX3_init 5 = .ok (.bipush 6, 2) := by decide +kernel
theorem dX3_init_7 : decode cX3_init 7 = .ok (.newarray .int, 2) := by decide +kernel
theorem dX3_init_9 : decode cX3_init 9 = .ok (.putfield 7, 3) := by decide +kernel
theorem dX3_init_12 : decode cX3_init 12 = .ok (.aload_n 0, 1) := by decide +kernel
theorem dX3_init_13 : decode cX3_init 13 = .ok (.bipush 7, 2) := by decide +kernel
theorem dX3_init_15 : decode cX3_init 15 = .ok (.newarray .int, 2) := by decide +kernel
theorem dX3_init_17 : decode cX3_init 17 = .ok (.putfield 13, 3) := by decide +kernel
theorem dX3_init_20 : decode cX3_init 20 = .ok (.aload_n 0, 1) := by decide +kernel
theorem dX3_init_21 : decode cX3_init 21 = .ok (.bipush 7, 2) := by decide +kernel
theorem dX3_init_23 : decode cX3_init 23 = .ok (.newarray .int, 2) := by decide +kernel
theorem dX3_init_25 : decode cX3_init 25 = .ok (.putfield 16, 3) := by decide +kernel
theorem dX3_init_28 : decode cX3_init 28 = .ok (.aload_n 0, 1) := by decide +kernel
theorem dX3_init_29 : decode cX3_init 29 = .ok (.sipush 280, 3) := by decide +kernel
theorem dX3_init_32 : decode cX3_init 32 = .ok (.newarray .long, 2) := by decide +kernel
theorem dX3_init_34 : decode cX3_init 34 = .ok (.putfield 19, 3) := by decide +kernel
theorem dX3_init_37 : decode cX3_init 37 = .ok (.aload_n 0, 1) := by decide +kernel
theorem dX3_init_38 : decode cX3_init 38 = .ok (.bipush 40, 2) := by decide +kernel
theorem dX3_init_40 : decode cX3_init 40 = .ok (.newarray .long, 2) := by decide +kernel
theorem dX3_init_42 : decode cX3_init 42 = .ok (.putfield 23, 3) := by decide +kernel
theorem dX3_init_45 : decode cX3_init 45 = .ok (.aload_n 0, 1) := by decide +kernel
theorem dX3_init_46 : decode cX3_init 46 = .ok (.bipush 120, 2) := by decide +kernel
theorem dX3_init_48 : decode cX3_init 48 = .ok (.newarray .int, 2) := by decide +kernel
theorem dX3_init_50 : decode cX3_init 50 = .ok (.putfield 26, 3) := by decide +kernel
theorem dX3_init_53 : decode cX3_init 53 = .ok (.iconst 0, 1) := by decide +kernel
theorem dX3_init_54 : decode cX3_init 54 = .ok (.istore_n 1, 1) := by decide +kernel
theorem dX3_init_55 : decode cX3_init 55 = .ok (.iload_n 1, 1) := by decide +kernel
theorem dX3_init_56 : decode cX3_init 56 = .ok (.bipush 6, 2) := by decide +kernel
theorem dX3_init_58 : decode cX3_init 58 = .ok (.if_icmp .ge 16, 3) := by decide +kernel
theorem dX3_init_61 : decode cX3_init 61 = .ok (.aload_n 0, 1) := by decide +kernel
theorem dX3_init_62 : decode cX3_init 62 = .ok (.getfield 7, 3) := by decide +kernel
theorem dX3_init_65 : decode cX3_init 65 = .ok (.iload_n 1, 1) := by decide +kernel
theorem dX3_init_66 : decode cX3_init 66 = .ok (.iconst (-1), 1) := by decide +kernel
theorem dX3_init_67 : decode cX3_init 67 = .ok (.iastore, 1) := by decide +kernel
theorem dX3_init_68 : decode cX3_init 68 = .ok (.iinc 1 1, 3) := by decide +kernel
theorem dX3_init_71 : decode cX3_init 71 = .ok (.goto (-16), 3) := by decide +kernel
theorem dX3_init_74 : decode cX3_init 74 = .ok (.return_, 1) := by decide +kernel
theorem dX3_thrown_0 : decode cX3_thrown 0 = .ok (.aload_n 0, 1) := by decide +kernel
theorem dX3_thrown_1 : decode cX3_thrown 1 = .ok (.getfield 29, 3) := by decide +kernel
theorem dX3_thrown_4 : decode cX3_thrown 4 = .ok (.ireturn, 1) := by decide +kernel
theorem dX3_in_0 : decode cX3_in 0 = .ok (.iload_n 0, 1) := by decide +kernel
theorem dX3_in_1 : decode cX3_in 1 = .ok (.iload_n 1, 1) := by decide +kernel
theorem dX3_in_2 : decode cX3_in 2 = .ok (.if_icmp .lt 12, 3) := by decide +kernel
theorem dX3_in_5 : decode cX3_in 5 = .ok (.iload_n 0, 1) := by decide +kernel
theorem dX3_in_6 : decode cX3_in 6 = .ok (.iload_n 2, 1) := by decide +kernel
theorem dX3_in_7 : decode cX3_in 7 = .ok (.if_icmp .gt 7, 3) := by decide +kernel
theorem dX3_in_10 : decode cX3_in 10 = .ok (.iconst 1, 1) := by decide +kernel
theorem dX3_in_11 : decode cX3_in 11 = .ok (.goto 4, 3) := by decide +kernel
theorem dX3_in_14 : decode cX3_in 14 = .ok (.iconst 0, 1) := by decide +kernel
theorem dX3_in_15 : decode cX3_in 15 = .ok (.ireturn, 1) := by decide +kernel
theorem dX3_isHook_0 : decode cX3_isHook 0 = .ok (.iload_n 0, 1) := by decide +kernel
theorem dX3_isHook_1 : decode cX3_isHook 1 = .ok (.iconst 0, 1) := by decide +kernel
theorem dX3_isHook_2 : decode cX3_isHook 2 = .ok (.iconst 5, 1) := by decide +kernel
theorem dX3_isHook_3 : decode cX3_isHook 3 = .ok (.invokestatic 33, 3) := by decide +kernel
theorem dX3_isHook_6 : decode cX3_isHook 6 = .ok (.ireturn, 1) := by decide +kernel
theorem dX3_kindAt_0 : decode cX3_kindAt 0 = .ok (.aload_n 0, 1) := by decide +kernel
theorem dX3_kindAt_1 : decode cX3_kindAt 1 = .ok (.getfield 7, 3) := by decide +kernel
theorem dX3_kindAt_4 : decode cX3_kindAt 4 = .ok (.iload_n 1, 1) := by decide +kernel
theorem dX3_kindAt_5 : decode cX3_kindAt 5 = .ok (.iaload, 1) := by decide +kernel
theorem dX3_kindAt_6 : decode cX3_kindAt 6 = .ok (.iconst (-1), 1) := by decide +kernel
theorem dX3_kindAt_7 : decode cX3_kindAt 7 = .ok (.if_icmp .ne 7, 3) := by decide +kernel
theorem dX3_kindAt_10 : decode cX3_kindAt 10 = .ok (.iconst 0, 1) := by decide +kernel
theorem dX3_kindAt_11 : decode cX3_kindAt 11 = .ok (.goto 14, 3) := by decide +kernel
theorem dX3_kindAt_14 : decode cX3_kindAt 14 = .ok (.aload_n 0, 1) := by decide +kernel
theorem dX3_kindAt_15 : decode cX3_kindAt 15 = .ok (.getfield 13, 3) := by decide +kernel
theorem dX3_kindAt_18 : decode cX3_kindAt 18 = .ok (.aload_n 0, 1) := by decide +kernel
theorem dX3_kindAt_19 : decode cX3_kindAt 19 = .ok (.getfield 7, 3) := by decide +kernel
theorem dX3_kindAt_22 : decode cX3_kindAt 22 = .ok (.iload_n 1, 1) := by decide +kernel
theorem dX3_kindAt_23 : decode cX3_kindAt 23 = .ok (.iaload, 1) := by decide +kernel
theorem dX3_kindAt_24 : decode cX3_kindAt 24 = .ok (.iaload, 1) := by decide +kernel
theorem dX3_kindAt_25 : decode cX3_kindAt 25 = .ok (.ireturn, 1) := by decide +kernel
theorem dX3_hasRow_0 : decode cX3_hasRow 0 = .ok (.aload_n 0, 1) := by decide +kernel
theorem dX3_hasRow_1 : decode cX3_hasRow 1 = .ok (.iload_n 1, 1) := by decide +kernel
theorem dX3_hasRow_2 : decode cX3_hasRow 2 = .ok (.invokevirtual 37, 3) := by decide +kernel
theorem dX3_hasRow_5 : decode cX3_hasRow 5 = .ok (.iconst 1, 1) := by decide +kernel
theorem dX3_hasRow_6 : decode cX3_hasRow 6 = .ok (.iconst 4, 1) := by decide +kernel
theorem dX3_hasRow_7 : decode cX3_hasRow 7 = .ok (.invokestatic 33, 3) := by decide +kernel
theorem dX3_hasRow_10 : decode cX3_hasRow 10 = .ok (.ireturn, 1) := by decide +kernel
theorem dX3_hasCards_0 : decode cX3_hasCards 0 = .ok (.aload_n 0, 1) := by decide +kernel
theorem dX3_hasCards_1 : decode cX3_hasCards 1 = .ok (.iload_n 1, 1) := by decide +kernel
theorem dX3_hasCards_2 : decode cX3_hasCards 2 = .ok (.invokevirtual 37, 3) := by decide +kernel
theorem dX3_hasCards_5 : decode cX3_hasCards 5 = .ok (.iconst 3, 1) := by decide +kernel
theorem dX3_hasCards_6 : decode cX3_hasCards 6 = .ok (.iconst 4, 1) := by decide +kernel
theorem dX3_hasCards_7 : decode cX3_hasCards 7 = .ok (.invokestatic 33, 3) := by decide +kernel
theorem dX3_hasCards_10 : decode cX3_hasCards 10 = .ok (.ireturn, 1) := by decide +kernel
theorem dX3_sizeAt_0 : decode cX3_sizeAt 0 = .ok (.aload_n 0, 1) := by decide +kernel
theorem dX3_sizeAt_1 : decode cX3_sizeAt 1 = .ok (.getfield 16, 3) := by decide +kernel
theorem dX3_sizeAt_4 : decode cX3_sizeAt 4 = .ok (.aload_n 0, 1) := by decide +kernel
theorem dX3_sizeAt_5 : decode cX3_sizeAt 5 = .ok (.getfield 7, 3) := by decide +kernel
theorem dX3_sizeAt_8 : decode cX3_sizeAt 8 = .ok (.iload_n 1, 1) := by decide +kernel
theorem dX3_sizeAt_9 : decode cX3_sizeAt 9 = .ok (.iaload, 1) := by decide +kernel
theorem dX3_sizeAt_10 : decode cX3_sizeAt 10 = .ok (.iaload, 1) := by decide +kernel
theorem dX3_sizeAt_11 : decode cX3_sizeAt 11 = .ok (.ireturn, 1) := by decide +kernel
theorem dX3_free_0 : decode cX3_free 0 = .ok (.iconst (-1), 1) := by decide +kernel
theorem dX3_free_1 : decode cX3_free 1 = .ok (.istore_n 1, 1) := by decide +kernel
theorem dX3_free_2 : decode cX3_free 2 = .ok (.iconst 0, 1) := by decide +kernel
theorem dX3_free_3 : decode cX3_free 3 = .ok (.istore_n 2, 1) := by decide +kernel
theorem dX3_free_4 : decode cX3_free 4 = .ok (.iload_n 2, 1) := by decide +kernel
theorem dX3_free_5 : decode cX3_free 5 = .ok (.bipush 7, 2) := by decide +kernel
theorem dX3_free_7 : decode cX3_free 7 = .ok (.if_icmp .ge 58, 3) := by decide +kernel
theorem dX3_free_10 : decode cX3_free 10 = .ok (.iconst 0, 1) := by decide +kernel
theorem dX3_free_11 : decode cX3_free 11 = .ok (.istore_n 3, 1) := by decide +kernel
theorem dX3_free_12 : decode cX3_free 12 = .ok (.iconst 0, 1) := by decide +kernel
theorem dX3_free_13 : decode cX3_free 13 = .ok (.istore 4, 2) := by decide +kernel
theorem dX3_free_15 : decode cX3_free 15 = .ok (.iload 4, 2) := by decide +kernel
theorem dX3_free_17 : decode cX3_free 17 = .ok (.bipush 6, 2) := by decide +kernel
theorem dX3_free_19 : decode cX3_free 19 = .ok (.if_icmp .ge 30, 3) := by decide +kernel
theorem dX3_free_22 : decode cX3_free 22 = .ok (.iload_n 3, 1) := by decide +kernel
theorem dX3_free_23 : decode cX3_free 23 = .ok (.ifCond .ne 14, 3) := by decide +kernel
theorem dX3_free_26 : decode cX3_free 26 = .ok (.aload_n 0, 1) := by decide +kernel
theorem dX3_free_27 : decode cX3_free 27 = .ok (.getfield 7, 3) := by decide +kernel
theorem dX3_free_30 : decode cX3_free 30 = .ok (.iload 4, 2) := by decide +kernel
theorem dX3_free_32 : decode cX3_free 32 = .ok (.iaload, 1) := by decide +kernel
theorem dX3_free_33 : decode cX3_free 33 = .ok (.iload_n 2, 1) := by decide +kernel
theorem dX3_free_34 : decode cX3_free 34 = .ok (.if_icmp .ne 7, 3) := by decide +kernel
theorem dX3_free_37 : decode cX3_free 37 = .ok (.iconst 1, 1) := by decide +kernel
theorem dX3_free_38 : decode cX3_free 38 = .ok (.goto 4, 3) := by decide +kernel
theorem dX3_free_41 : decode cX3_free 41 = .ok (.iconst 0, 1) := by decide +kernel
theorem dX3_free_42 : decode cX3_free 42 = .ok (.istore_n 3, 1) := by decide +kernel
theorem dX3_free_43 : decode cX3_free 43 = .ok (.iinc 4 1, 3) := by decide +kernel
theorem dX3_free_46 : decode cX3_free 46 = .ok (.goto (-31), 3) := by decide +kernel
theorem dX3_free_49 : decode cX3_free 49 = .ok (.iload_n 3, 1) := by decide +kernel
theorem dX3_free_50 : decode cX3_free 50 = .ok (.ifCond .eq 7, 3) := by decide +kernel
theorem dX3_free_53 : decode cX3_free 53 = .ok (.iload_n 1, 1) := by decide +kernel
theorem dX3_free_54 : decode cX3_free 54 = .ok (.goto 4, 3) := by decide +kernel
theorem dX3_free_57 : decode cX3_free 57 = .ok (.iload_n 2, 1) := by decide +kernel
theorem dX3_free_58 : decode cX3_free 58 = .ok (.istore_n 1, 1) := by decide +kernel
theorem dX3_free_59 : decode cX3_free 59 = .ok (.iinc 2 1, 3) := by decide +kernel
theorem dX3_free_62 : decode cX3_free 62 = .ok (.goto (-58), 3) := by decide +kernel
theorem dX3_free_65 : decode cX3_free 65 = .ok (.iload_n 1, 1) := by decide +kernel
theorem dX3_free_66 : decode cX3_free 66 = .ok (.ireturn, 1) := by decide +kernel
theorem dX3_wind_0 : decode cX3_wind 0 = .ok (.iload_n 2, 1) := by decide +kernel
theorem dX3_wind_1 : decode cX3_wind 1 = .ok (.iconst 1, 1) := by decide +kernel
theorem dX3_wind_2 : decode cX3_wind 2 = .ok (.iconst 4, 1) := by decide +kernel
theorem dX3_wind_3 : decode cX3_wind 3 = .ok (.invokestatic 33, 3) := by decide +kernel
theorem dX3_wind_6 : decode cX3_wind 6 = .ok (.istore 4, 2) := by decide +kernel
theorem dX3_wind_8 : decode cX3_wind 8 = .ok (.aload_n 0, 1) := by decide +kernel
theorem dX3_wind_9 : decode cX3_wind 9 = .ok (.iload_n 1, 1) := by decide +kernel
theorem dX3_wind_10 : decode cX3_wind 10 = .ok (.invokestatic 41, 3) := by decide +kernel
theorem dX3_wind_13 : decode cX3_wind 13 = .ok (.ifCond .eq 31, 3) := by decide +kernel
theorem dX3_wind_16 : decode cX3_wind 16 = .ok (.iload_n 2, 1) := by decide +kernel
theorem dX3_wind_17 : decode cX3_wind 17 = .ok (.iconst 0, 1) := by decide +kernel
theorem dX3_wind_18 : decode cX3_wind 18 = .ok (.iconst 5, 1) := by decide +kernel
theorem dX3_wind_19 : decode cX3_wind 19 = .ok (.invokestatic 33, 3) := by decide +kernel
theorem dX3_wind_22 : decode cX3_wind 22 = .ok (.ifCond .eq 22, 3) := by decide +kernel
theorem dX3_wind_25 : decode cX3_wind 25 = .ok (.iload 4, 2) := by decide +kernel
theorem dX3_wind_27 : decode cX3_wind 27 = .ok (.ifCond .eq 13, 3) := by decide +kernel
theorem dX3_wind_30 : decode cX3_wind 30 = .ok (.iload_n 3, 1) := by decide +kernel
theorem dX3_wind_31 : decode cX3_wind 31 = .ok (.iconst 0, 1) := by decide +kernel
theorem dX3_wind_32 : decode cX3_wind 32 = .ok (.bipush 40, 2) := by decide +kernel
theorem dX3_wind_34 : decode cX3_wind 34 = .ok (.invokestatic 33, 3) := by decide +kernel
theorem dX3_wind_37 : decode cX3_wind 37 = .ok (.ifCond .eq 7, 3) := by decide +kernel
theorem dX3_wind_40 : decode cX3_wind 40 = .ok (.iconst 0, 1) := by decide +kernel
theorem dX3_wind_41 : decode cX3_wind 41 = .ok (.goto 4, 3) := by decide +kernel
theorem dX3_wind_44 : decode cX3_wind 44 = .ok (.iconst 1, 1) := by decide +kernel
theorem dX3_wind_45 : decode cX3_wind 45 = .ok (.putfield 29, 3) := by decide +kernel
theorem dX3_wind_48 : decode cX3_wind 48 = .ok (.aload_n 0, 1) := by decide +kernel
theorem dX3_wind_49 : decode cX3_wind 49 = .ok (.getfield 29, 3) := by decide +kernel
theorem dX3_wind_52 : decode cX3_wind 52 = .ok (.ifCond .le 5, 3) := by decide +kernel
theorem dX3_wind_55 : decode cX3_wind 55 = .ok (.iconst 0, 1) := by decide +kernel
theorem dX3_wind_56 : decode cX3_wind 56 = .ok (.ireturn, 1) := by decide +kernel
theorem dX3_wind_57 : decode cX3_wind 57 = .ok (.iload_n 2, 1) := by decide +kernel
theorem dX3_wind_58 : decode cX3_wind 58 = .ok (.ifCond .ne 12, 3) := by decide +kernel
theorem dX3_wind_61 : decode cX3_wind 61 = .ok (.aload_n 0, 1) := by decide +kernel
theorem dX3_wind_62 : decode cX3_wind 62 = .ok (.getfield 7, 3) := by decide +kernel
theorem dX3_wind_65 : decode cX3_wind 65 = .ok (.iload_n 1, 1) := by decide +kernel
theorem dX3_wind_66 : decode cX3_wind 66 = .ok (.iconst (-1), 1) := by decide +kernel
theorem dX3_wind_67 : decode cX3_wind 67 = .ok (.iastore, 1) := by decide +kernel
theorem dX3_wind_68 : decode cX3_wind 68 = .ok (.iconst 0, 1) := by decide +kernel
theorem dX3_wind_69 : decode cX3_wind 69 = .ok (.ireturn, 1) := by decide +kernel
theorem dX3_wind_70 : decode cX3_wind 70 = .ok (.aload_n 0, 1) := by decide +kernel
theorem dX3_wind_71 : decode cX3_wind 71 = .ok (.invokevirtual 45, 3) := by decide +kernel
theorem dX3_wind_74 : decode cX3_wind 74 = .ok (.istore 5, 2) := by decide +kernel
theorem dX3_wind_76 : decode cX3_wind 76 = .ok (.aload_n 0, 1) := by decide +kernel
theorem dX3_wind_77 : decode cX3_wind 77 = .ok (.getfield 13, 3) := by decide +kernel
theorem dX3_wind_80 : decode cX3_wind 80 = .ok (.iload 5, 2) := by decide +kernel
theorem dX3_wind_82 : decode cX3_wind 82 = .ok (.iload_n 2, 1) := by decide +kernel
theorem dX3_wind_83 : decode cX3_wind 83 = .ok (.iastore, 1) := by decide +kernel
theorem dX3_wind_84 : decode cX3_wind 84 = .ok (.aload_n 0, 1) := by decide +kernel
theorem dX3_wind_85 : decode cX3_wind 85 = .ok (.getfield 16, 3) := by decide +kernel
theorem dX3_wind_88 : decode cX3_wind 88 = .ok (.iload 5, 2) := by decide +kernel
theorem dX3_wind_90 : decode cX3_wind 90 = .ok (.iload 4, 2) := by decide +kernel
theorem dX3_wind_92 : decode cX3_wind 92 = .ok (.ifCond .eq 7, 3) := by decide +kernel
theorem dX3_wind_95 : decode cX3_wind 95 = .ok (.iload_n 3, 1) := by decide +kernel
theorem dX3_wind_96 : decode cX3_wind 96 = .ok (.goto 4, 3) := by decide +kernel
theorem dX3_wind_99 : decode cX3_wind 99 = .ok (.iconst 0, 1) := by decide +kernel
theorem dX3_wind_100 : decode cX3_wind 100 = .ok (.iastore, 1) := by decide +kernel
theorem dX3_wind_101 : decode cX3_wind 101 = .ok (.iconst 0, 1) := by decide +kernel
theorem dX3_wind_102 : decode cX3_wind 102 = .ok (.istore 6, 2) := by decide +kernel
theorem dX3_wind_104 : decode cX3_wind 104 = .ok (.iload 6, 2) := by decide +kernel
theorem dX3_wind_106 : decode cX3_wind 106 = .ok (.bipush 40, 2) := by decide +kernel
theorem dX3_wind_108 : decode cX3_wind 108 = .ok (.if_icmp .ge 34, 3) := by decide +kernel
theorem dX3_wind_111 : decode cX3_wind 111 = .ok (.aload_n 0, 1) := by decide +kernel
theorem dX3_wind_112 : decode cX3_wind 112 = .ok (.getfield 19, 3) := by decide +kernel
theorem dX3_wind_115 : decode cX3_wind 115 = .ok (.bipush 40, 2) := by decide +kernel
theorem dX3_wind_117 : decode cX3_wind 117 = .ok (.iload 5, 2) := by decide +kernel
theorem dX3_wind_119 : decode cX3_wind 119 = .ok (.imul, 1) := by decide +kernel
theorem dX3_wind_120 : decode cX3_wind 120 = .ok (.iload 6, 2) := by decide +kernel
theorem dX3_wind_122 : decode cX3_wind 122 = .ok (.iadd, 1) := by decide +kernel
theorem dX3_wind_123 : decode cX3_wind 123 = .ok (.iload_n 2, 1) := by decide +kernel
theorem dX3_wind_124 : decode cX3_wind 124 = .ok (.iconst 3, 1) := by decide +kernel
theorem dX3_wind_125 : decode cX3_wind 125 = .ok (.if_icmp .lt 9, 3) := by decide +kernel
theorem dX3_wind_128 : decode cX3_wind 128 = .ok (.ldc2_w 49, 3) := by decide +kernel
theorem dX3_wind_131 : decode cX3_wind 131 = .ok (.goto 4, 3) := by decide +kernel
theorem dX3_wind_134 : decode cX3_wind 134 = .ok (.lconst 0, 1) := by decide +kernel
theorem dX3_wind_135 : decode cX3_wind 135 = .ok (.lastore, 1) := by decide +kernel
theorem dX3_wind_136 : decode cX3_wind 136 = .ok (.iinc 6 1, 3) := by decide +kernel
theorem dX3_wind_139 : decode cX3_wind 139 = .ok (.goto (-35), 3) := by decide +kernel
theorem dX3_wind_142 : decode cX3_wind 142 = .ok (.aload_n 0, 1) := by decide +kernel
theorem dX3_wind_143 : decode cX3_wind 143 = .ok (.getfield 7, 3) := by decide +kernel
theorem dX3_wind_146 : decode cX3_wind 146 = .ok (.iload_n 1, 1) := by decide +kernel
theorem dX3_wind_147 : decode cX3_wind 147 = .ok (.iload 5, 2) := by decide +kernel
theorem dX3_wind_149 : decode cX3_wind 149 = .ok (.iastore, 1) := by decide +kernel
theorem dX3_wind_150 : decode cX3_wind 150 = .ok (.iload_n 2, 1) := by decide +kernel
theorem dX3_wind_151 : decode cX3_wind 151 = .ok (.ireturn, 1) := by decide +kernel
theorem dX3_hang_0 : decode cX3_hang 0 = .ok (.aload_n 0, 1) := by decide +kernel
theorem dX3_hang_1 : decode cX3_hang 1 = .ok (.iload_n 1, 1) := by decide +kernel
theorem dX3_hang_2 : decode cX3_hang 2 = .ok (.invokestatic 41, 3) := by decide +kernel
theorem dX3_hang_5 : decode cX3_hang 5 = .ok (.ifCond .eq 14, 3) := by decide +kernel
theorem dX3_hang_8 : decode cX3_hang 8 = .ok (.iload_n 2, 1) := by decide +kernel
theorem dX3_hang_9 : decode cX3_hang 9 = .ok (.invokestatic 41, 3) := by decide +kernel
theorem dX3_hang_12 : decode cX3_hang 12 = .ok (.ifCond .eq 7, 3) := by decide +kernel
theorem dX3_hang_15 : decode cX3_hang 15 = .ok (.iconst 0, 1) := by decide +kernel
theorem dX3_hang_16 : decode cX3_hang 16 = .ok (.goto 4, 3) := by decide +kernel
theorem dX3_hang_19 : decode cX3_hang 19 = .ok (.iconst 1, 1) := by decide +kernel
theorem dX3_hang_20 : decode cX3_hang 20 = .ok (.putfield 29, 3) := by decide +kernel
theorem dX3_hang_23 : decode cX3_hang 23 = .ok (.aload_n 0, 1) := by decide +kernel
theorem dX3_hang_24 : decode cX3_hang 24 = .ok (.getfield 29, 3) := by decide +kernel
theorem dX3_hang_27 : decode cX3_hang 27 = .ok (.ifCond .le 5, 3) := by decide +kernel
theorem dX3_hang_30 : decode cX3_hang 30 = .ok (.iconst 0, 1) := by decide +kernel
theorem dX3_hang_31 : decode cX3_hang 31 = .ok (.ireturn, 1) := by decide +kernel
theorem dX3_hang_32 : decode cX3_hang 32 = .ok (.aload_n 0, 1) := by decide +kernel
theorem dX3_hang_33 : decode cX3_hang 33 = .ok (.getfield 7, 3) := by decide +kernel
theorem dX3_hang_36 : decode cX3_hang 36 = .ok (.iload_n 1, 1) := by decide +kernel
theorem dX3_hang_37 : decode cX3_hang 37 = .ok (.aload_n 0, 1) := by decide +kernel
theorem dX3_hang_38 : decode cX3_hang 38 = .ok (.getfield 7, 3) := by decide +kernel
theorem dX3_hang_41 : decode cX3_hang 41 = .ok (.iload_n 2, 1) := by decide +kernel
theorem dX3_hang_42 : decode cX3_hang 42 = .ok (.iaload, 1) := by decide +kernel
theorem dX3_hang_43 : decode cX3_hang 43 = .ok (.iastore, 1) := by decide +kernel
theorem dX3_hang_44 : decode cX3_hang 44 = .ok (.aload_n 0, 1) := by decide +kernel
theorem dX3_hang_45 : decode cX3_hang 45 = .ok (.iload_n 1, 1) := by decide +kernel
theorem dX3_hang_46 : decode cX3_hang 46 = .ok (.invokevirtual 37, 3) := by decide +kernel
theorem dX3_hang_49 : decode cX3_hang 49 = .ok (.ireturn, 1) := by decide +kernel
theorem dX3_twin_0 : decode cX3_twin 0 = .ok (.aload_n 0, 1) := by decide +kernel
theorem dX3_twin_1 : decode cX3_twin 1 = .ok (.iload_n 1, 1) := by decide +kernel
theorem dX3_twin_2 : decode cX3_twin 2 = .ok (.invokestatic 41, 3) := by decide +kernel
theorem dX3_twin_5 : decode cX3_twin 5 = .ok (.ifCond .eq 10, 3) := by decide +kernel
theorem dX3_twin_8 : decode cX3_twin 8 = .ok (.iload_n 2, 1) := by decide +kernel
theorem dX3_twin_9 : decode cX3_twin 9 = .ok (.invokestatic 41, 3) := by decide +kernel
theorem dX3_twin_12 : decode cX3_twin 12 = .ok (.ifCond .ne 7, 3) := by decide +kernel
theorem dX3_twin_15 : decode cX3_twin 15 = .ok (.iconst 1, 1) := by decide +kernel
theorem dX3_twin_16 : decode cX3_twin 16 = .ok (.goto 16, 3) := by decide +kernel
theorem dX3_twin_19 : decode cX3_twin 19 = .ok (.aload_n 0, 1) := by decide +kernel
theorem dX3_twin_20 : decode cX3_twin 20 = .ok (.iload_n 2, 1) := by decide +kernel
theorem dX3_twin_21 : decode cX3_twin 21 = .ok (.invokevirtual 51, 3) := by decide +kernel
theorem dX3_twin_24 : decode cX3_twin 24 = .ok (.ifCond .ne 7, 3) := by decide +kernel
theorem dX3_twin_27 : decode cX3_twin 27 = .ok (.iconst 2, 1) := by decide +kernel
theorem dX3_twin_28 : decode cX3_twin 28 = .ok (.goto 4, 3) := by decide +kernel
theorem dX3_twin_31 : decode cX3_twin 31 = .ok (.iconst 0, 1) := by decide +kernel
theorem dX3_twin_32 : decode cX3_twin 32 = .ok (.putfield 29, 3) := by decide +kernel
theorem dX3_twin_35 : decode cX3_twin 35 = .ok (.aload_n 0, 1) := by decide +kernel
theorem dX3_twin_36 : decode cX3_twin 36 = .ok (.getfield 29, 3) := by decide +kernel
theorem dX3_twin_39 : decode cX3_twin 39 = .ok (.ifCond .le 5, 3) := by decide +kernel
theorem dX3_twin_42 : decode cX3_twin 42 = .ok (.iconst 0, 1) := by decide +kernel
theorem dX3_twin_43 : decode cX3_twin 43 = .ok (.ireturn, 1) := by decide +kernel
theorem dX3_twin_44 : decode cX3_twin 44 = .ok (.aload_n 0, 1) := by decide +kernel
theorem dX3_twin_45 : decode cX3_twin 45 = .ok (.getfield 7, 3) := by decide +kernel
theorem dX3_twin_48 : decode cX3_twin 48 = .ok (.iload_n 2, 1) := by decide +kernel
theorem dX3_twin_49 : decode cX3_twin 49 = .ok (.iaload, 1) := by decide +kernel
theorem dX3_twin_50 : decode cX3_twin 50 = .ok (.istore_n 3, 1) := by decide +kernel
theorem dX3_twin_51 : decode cX3_twin 51 = .ok (.aload_n 0, 1) := by decide +kernel
theorem dX3_twin_52 : decode cX3_twin 52 = .ok (.invokevirtual 45, 3) := by decide +kernel
theorem dX3_twin_55 : decode cX3_twin 55 = .ok (.istore 4, 2) := by decide +kernel
theorem dX3_twin_57 : decode cX3_twin 57 = .ok (.aload_n 0, 1) := by decide +kernel
theorem dX3_twin_58 : decode cX3_twin 58 = .ok (.getfield 13, 3) := by decide +kernel
theorem dX3_twin_61 : decode cX3_twin 61 = .ok (.iload 4, 2) := by decide +kernel
theorem dX3_twin_63 : decode cX3_twin 63 = .ok (.aload_n 0, 1) := by decide +kernel
theorem dX3_twin_64 : decode cX3_twin 64 = .ok (.getfield 13, 3) := by decide +kernel
theorem dX3_twin_67 : decode cX3_twin 67 = .ok (.iload_n 3, 1) := by decide +kernel
theorem dX3_twin_68 : decode cX3_twin 68 = .ok (.iaload, 1) := by decide +kernel
theorem dX3_twin_69 : decode cX3_twin 69 = .ok (.iastore, 1) := by decide +kernel
theorem dX3_twin_70 : decode cX3_twin 70 = .ok (.aload_n 0, 1) := by decide +kernel
theorem dX3_twin_71 : decode cX3_twin 71 = .ok (.getfield 16, 3) := by decide +kernel
theorem dX3_twin_74 : decode cX3_twin 74 = .ok (.iload 4, 2) := by decide +kernel
theorem dX3_twin_76 : decode cX3_twin 76 = .ok (.aload_n 0, 1) := by decide +kernel
theorem dX3_twin_77 : decode cX3_twin 77 = .ok (.getfield 16, 3) := by decide +kernel
theorem dX3_twin_80 : decode cX3_twin 80 = .ok (.iload_n 3, 1) := by decide +kernel
theorem dX3_twin_81 : decode cX3_twin 81 = .ok (.iaload, 1) := by decide +kernel
theorem dX3_twin_82 : decode cX3_twin 82 = .ok (.iastore, 1) := by decide +kernel
theorem dX3_twin_83 : decode cX3_twin 83 = .ok (.iconst 0, 1) := by decide +kernel
theorem dX3_twin_84 : decode cX3_twin 84 = .ok (.istore 5, 2) := by decide +kernel
theorem dX3_twin_86 : decode cX3_twin 86 = .ok (.iload 5, 2) := by decide +kernel
theorem dX3_twin_88 : decode cX3_twin 88 = .ok (.bipush 40, 2) := by decide +kernel
theorem dX3_twin_90 : decode cX3_twin 90 = .ok (.if_icmp .ge 34, 3) := by decide +kernel
theorem dX3_twin_93 : decode cX3_twin 93 = .ok (.aload_n 0, 1) := by decide +kernel
theorem dX3_twin_94 : decode cX3_twin 94 = .ok (.getfield 19, 3) := by decide +kernel
theorem dX3_twin_97 : decode cX3_twin 97 = .ok (.bipush 40, 2) := by decide +kernel
theorem dX3_twin_99 : decode cX3_twin 99 = .ok (.iload 4, 2) := by decide +kernel
theorem dX3_twin_101 : decode cX3_twin 101 = .ok (.imul, 1) := by decide +kernel
theorem dX3_twin_102 : decode cX3_twin 102 = .ok (.iload 5, 2) := by decide +kernel
theorem dX3_twin_104 : decode cX3_twin 104 = .ok (.iadd, 1) := by decide +kernel
theorem dX3_twin_105 : decode cX3_twin 105 = .ok (.aload_n 0, 1) := by decide +kernel
theorem dX3_twin_106 : decode cX3_twin 106 = .ok (.getfield 19, 3) := by decide +kernel
theorem dX3_twin_109 : decode cX3_twin 109 = .ok (.bipush 40, 2) := by decide +kernel
theorem dX3_twin_111 : decode cX3_twin 111 = .ok (.iload_n 3, 1) := by decide +kernel
theorem dX3_twin_112 : decode cX3_twin 112 = .ok (.imul, 1) := by decide +kernel
theorem dX3_twin_113 : decode cX3_twin 113 = .ok (.iload 5, 2) := by decide +kernel
theorem dX3_twin_115 : decode cX3_twin 115 = .ok (.iadd, 1) := by decide +kernel
theorem dX3_twin_116 : decode cX3_twin 116 = .ok (.laload, 1) := by decide +kernel
theorem dX3_twin_117 : decode cX3_twin 117 = .ok (.lastore, 1) := by decide +kernel
theorem dX3_twin_118 : decode cX3_twin 118 = .ok (.iinc 5 1, 3) := by decide +kernel
theorem dX3_twin_121 : decode cX3_twin 121 = .ok (.goto (-35), 3) := by decide +kernel
theorem dX3_twin_124 : decode cX3_twin 124 = .ok (.aload_n 0, 1) := by decide +kernel
theorem dX3_twin_125 : decode cX3_twin 125 = .ok (.getfield 7, 3) := by decide +kernel
theorem dX3_twin_128 : decode cX3_twin 128 = .ok (.iload_n 1, 1) := by decide +kernel
theorem dX3_twin_129 : decode cX3_twin 129 = .ok (.iload 4, 2) := by decide +kernel
theorem dX3_twin_131 : decode cX3_twin 131 = .ok (.iastore, 1) := by decide +kernel
theorem dX3_twin_132 : decode cX3_twin 132 = .ok (.aload_n 0, 1) := by decide +kernel
theorem dX3_twin_133 : decode cX3_twin 133 = .ok (.getfield 13, 3) := by decide +kernel
theorem dX3_twin_136 : decode cX3_twin 136 = .ok (.iload 4, 2) := by decide +kernel
theorem dX3_twin_138 : decode cX3_twin 138 = .ok (.iaload, 1) := by decide +kernel
theorem dX3_twin_139 : decode cX3_twin 139 = .ok (.ireturn, 1) := by decide +kernel
theorem dX3_mark_0 : decode cX3_mark 0 = .ok (.aload_n 0, 1) := by decide +kernel
theorem dX3_mark_1 : decode cX3_mark 1 = .ok (.iload_n 1, 1) := by decide +kernel
theorem dX3_mark_2 : decode cX3_mark 2 = .ok (.invokestatic 41, 3) := by decide +kernel
theorem dX3_mark_5 : decode cX3_mark 5 = .ok (.ifCond .ne 7, 3) := by decide +kernel
theorem dX3_mark_8 : decode cX3_mark 8 = .ok (.iconst 1, 1) := by decide +kernel
theorem dX3_mark_9 : decode cX3_mark 9 = .ok (.goto 40, 3) := by decide +kernel
theorem dX3_mark_12 : decode cX3_mark 12 = .ok (.aload_n 0, 1) := by decide +kernel
theorem dX3_mark_13 : decode cX3_mark 13 = .ok (.iload_n 1, 1) := by decide +kernel
theorem dX3_mark_14 : decode cX3_mark 14 = .ok (.invokevirtual 37, 3) := by decide +kernel
theorem dX3_mark_17 : decode cX3_mark 17 = .ok (.iconst 1, 1) := by decide +kernel
theorem dX3_mark_18 : decode cX3_mark 18 = .ok (.iconst 2, 1) := by decide +kernel
theorem dX3_mark_19 : decode cX3_mark 19 = .ok (.invokestatic 33, 3) := by decide +kernel
theorem dX3_mark_22 : decode cX3_mark 22 = .ok (.ifCond .ne 7, 3) := by decide +kernel
theorem dX3_mark_25 : decode cX3_mark 25 = .ok (.iconst 2, 1) := by decide +kernel
theorem dX3_mark_26 : decode cX3_mark 26 = .ok (.goto 23, 3) := by decide +kernel
theorem dX3_mark_29 : decode cX3_mark 29 = .ok (.iload_n 2, 1) := by decide +kernel
theorem dX3_mark_30 : decode cX3_mark 30 = .ok (.iconst 0, 1) := by decide +kernel
theorem dX3_mark_31 : decode cX3_mark 31 = .ok (.aload_n 0, 1) := by decide +kernel
theorem dX3_mark_32 : decode cX3_mark 32 = .ok (.iload_n 1, 1) := by decide +kernel
theorem dX3_mark_33 : decode cX3_mark 33 = .ok (.invokevirtual 54, 3) := by decide +kernel
theorem dX3_mark_36 : decode cX3_mark 36 = .ok (.iconst 1, 1) := by decide +kernel
theorem dX3_mark_37 : decode cX3_mark 37 = .ok (.isub, 1) := by decide +kernel
theorem dX3_mark_38 : decode cX3_mark 38 = .ok (.invokestatic 33, 3) := by decide +kernel
theorem dX3_mark_41 : decode cX3_mark 41 = .ok (.ifCond .ne 7, 3) := by decide +kernel
theorem dX3_mark_44 : decode cX3_mark 44 = .ok (.iconst 3, 1) := by decide +kernel
theorem dX3_mark_45 : decode cX3_mark 45 = .ok (.goto 4, 3) := by decide +kernel
theorem dX3_mark_48 : decode cX3_mark 48 = .ok (.iconst 0, 1) := by decide +kernel
theorem dX3_mark_49 : decode cX3_mark 49 = .ok (.putfield 29, 3) := by decide +kernel
theorem dX3_mark_52 : decode cX3_mark 52 = .ok (.aload_n 0, 1) := by decide +kernel
theorem dX3_mark_53 : decode cX3_mark 53 = .ok (.getfield 29, 3) := by decide +kernel
theorem dX3_mark_56 : decode cX3_mark 56 = .ok (.ifCond .ne 35, 3) := by decide +kernel
theorem dX3_mark_59 : decode cX3_mark 59 = .ok (.aload_n 0, 1) := by decide +kernel
theorem dX3_mark_60 : decode cX3_mark 60 = .ok (.getfield 19, 3) := by decide +kernel
theorem dX3_mark_63 : decode cX3_mark 63 = .ok (.bipush 40, 2) := by decide +kernel
theorem dX3_mark_65 : decode cX3_mark 65 = .ok (.aload_n 0, 1) := by decide +kernel
theorem dX3_mark_66 : decode cX3_mark 66 = .ok (.getfield 7, 3) := by decide +kernel
theorem dX3_mark_69 : decode cX3_mark 69 = .ok (.iload_n 1, 1) := by decide +kernel
theorem dX3_mark_70 : decode cX3_mark 70 = .ok (.iaload, 1) := by decide +kernel
theorem dX3_mark_71 : decode cX3_mark 71 = .ok (.imul, 1) := by decide +kernel
theorem dX3_mark_72 : decode cX3_mark 72 = .ok (.iload_n 2, 1) := by decide +kernel
theorem dX3_mark_73 : decode cX3_mark 73 = .ok (.iadd, 1) := by decide +kernel
theorem dX3_mark_74 : decode cX3_mark 74 = .ok (.aload_n 0, 1) := by decide +kernel
theorem dX3_mark_75 : decode cX3_mark 75 = .ok (.iload_n 1, 1) := by decide +kernel
theorem dX3_mark_76 : decode cX3_mark 76 = .ok (.invokevirtual 37, 3) := by decide +kernel
theorem dX3_mark_79 : decode cX3_mark 79 = .ok (.iconst 1, 1) := by decide +kernel
theorem dX3_mark_80 : decode cX3_mark 80 = .ok (.if_icmp .ne 9, 3) := by decide +kernel
theorem dX3_mark_83 : decode cX3_mark 83 = .ok (.lload_n 3, 1) := by decide +kernel
theorem dX3_mark_84 : decode cX3_mark 84 = .ok (.l2i, 1) := by decide +kernel
theorem dX3_mark_85 : decode cX3_mark 85 = .ok (.i2l, 1) := by decide +kernel
theorem dX3_mark_86 : decode cX3_mark 86 = .ok (.goto 4, 3) := by decide +kernel
theorem dX3_mark_89 : decode cX3_mark 89 = .ok (.lload_n 3, 1) := by decide +kernel
theorem dX3_mark_90 : decode cX3_mark 90 = .ok (.lastore, 1) := by decide +kernel
theorem dX3_mark_91 : decode cX3_mark 91 = .ok (.return_, 1) := by decide +kernel
theorem dX3_cardCode_0 : decode cX3_cardCode 0 = .ok (.aload_n 0, 1) := by decide +kernel
theorem dX3_cardCode_1 : decode cX3_cardCode 1 = .ok (.iload_n 1, 1) := by decide +kernel
theorem dX3_cardCode_2 : decode cX3_cardCode 2 = .ok (.invokevirtual 57, 3) := by decide +kernel
theorem dX3_cardCode_5 : decode cX3_cardCode 5 = .ok (.ifCond .ne 7, 3) := by decide +kernel
theorem dX3_cardCode_8 : decode cX3_cardCode 8 = .ok (.iconst 2, 1) := by decide +kernel
theorem dX3_cardCode_9 : decode cX3_cardCode 9 = .ok (.goto 23, 3) := by decide +kernel
theorem dX3_cardCode_12 : decode cX3_cardCode 12 = .ok (.iload_n 2, 1) := by decide +kernel
theorem dX3_cardCode_13 : decode cX3_cardCode 13 = .ok (.iconst 0, 1) := by decide +kernel
theorem dX3_cardCode_14 : decode cX3_cardCode 14 = .ok (.aload_n 0, 1) := by decide +kernel
theorem dX3_cardCode_15 : decode cX3_cardCode 15 = .ok (.iload_n 1, 1) := by decide +kernel
theorem dX3_cardCode_16 : decode cX3_cardCode 16 = .ok (.invokevirtual 54, 3) := by decide +kernel
theorem dX3_cardCode_19 : decode cX3_cardCode 19 = .ok (.iconst 1, 1) := by decide +kernel
theorem dX3_cardCode_20 : decode cX3_cardCode 20 = .ok (.isub, 1) := by decide +kernel
theorem dX3_cardCode_21 : decode cX3_cardCode 21 = .ok (.invokestatic 33, 3) := by decide +kernel
theorem dX3_cardCode_24 : decode cX3_cardCode 24 = .ok (.ifCond .ne 7, 3) := by decide +kernel
theorem dX3_cardCode_27 : decode cX3_cardCode 27 = .ok (.iconst 3, 1) := by decide +kernel
theorem dX3_cardCode_28 : decode cX3_cardCode 28 = .ok (.goto 4, 3) := by decide +kernel
theorem dX3_cardCode_31 : decode cX3_cardCode 31 = .ok (.iconst 0, 1) := by decide +kernel
theorem dX3_cardCode_32 : decode cX3_cardCode 32 = .ok (.ireturn, 1) := by decide +kernel
theorem dX3_paste_0 : decode cX3_paste 0 = .ok (.aload_n 0, 1) := by decide +kernel
theorem dX3_paste_1 : decode cX3_paste 1 = .ok (.iload_n 1, 1) := by decide +kernel
theorem dX3_paste_2 : decode cX3_paste 2 = .ok (.invokestatic 41, 3) := by decide +kernel
theorem dX3_paste_5 : decode cX3_paste 5 = .ok (.ifCond .eq 14, 3) := by decide +kernel
theorem dX3_paste_8 : decode cX3_paste 8 = .ok (.iload_n 3, 1) := by decide +kernel
theorem dX3_paste_9 : decode cX3_paste 9 = .ok (.iconst 0, 1) := by decide +kernel
theorem dX3_paste_10 : decode cX3_paste 10 = .ok (.sipush 999, 3) := by decide +kernel
theorem dX3_paste_13 : decode cX3_paste 13 = .ok (.invokestatic 33, 3) := by decide +kernel
theorem dX3_paste_16 : decode cX3_paste 16 = .ok (.ifCond .ne 7, 3) := by decide +kernel
theorem dX3_paste_19 : decode cX3_paste 19 = .ok (.iconst 1, 1) := by decide +kernel
theorem dX3_paste_20 : decode cX3_paste 20 = .ok (.goto 9, 3) := by decide +kernel
theorem dX3_paste_23 : decode cX3_paste 23 = .ok (.aload_n 0, 1) := by decide +kernel
theorem dX3_paste_24 : decode cX3_paste 24 = .ok (.iload_n 1, 1) := by decide +kernel
theorem dX3_paste_25 : decode cX3_paste 25 = .ok (.iload_n 2, 1) := by decide +kernel
theorem dX3_paste_26 : decode cX3_paste 26 = .ok (.invokevirtual 60, 3) := by decide +kernel
theorem dX3_paste_29 : decode cX3_paste 29 = .ok (.putfield 29, 3) := by decide +kernel
theorem dX3_paste_32 : decode cX3_paste 32 = .ok (.aload_n 0, 1) := by decide +kernel
theorem dX3_paste_33 : decode cX3_paste 33 = .ok (.getfield 29, 3) := by decide +kernel
theorem dX3_paste_36 : decode cX3_paste 36 = .ok (.ifCond .gt 17, 3) := by decide +kernel
theorem dX3_paste_39 : decode cX3_paste 39 = .ok (.aload_n 0, 1) := by decide +kernel
theorem dX3_paste_40 : decode cX3_paste 40 = .ok (.iload_n 1, 1) := by decide +kernel
theorem dX3_paste_41 : decode cX3_paste 41 = .ok (.invokevirtual 37, 3) := by decide +kernel
theorem dX3_paste_44 : decode cX3_paste 44 = .ok (.iconst 4, 1) := by decide +kernel
theorem dX3_paste_45 : decode cX3_paste 45 = .ok (.if_icmp .ne 10, 3) := by decide +kernel
theorem dX3_paste_48 : decode cX3_paste 48 = .ok (.iload 4, 2) := by decide +kernel
theorem dX3_paste_50 : decode cX3_paste 50 = .ok (.ifCond .ne 5, 3) := by decide +kernel
theorem dX3_paste_53 : decode cX3_paste 53 = .ok (.iconst 0, 1) := by decide +kernel
theorem dX3_paste_54 : decode cX3_paste 54 = .ok (.ireturn, 1) := by decide +kernel
theorem dX3_paste_55 : decode cX3_paste 55 = .ok (.aload_n 0, 1) := by decide +kernel
theorem dX3_paste_56 : decode cX3_paste 56 = .ok (.getfield 19, 3) := by decide +kernel
theorem dX3_paste_59 : decode cX3_paste 59 = .ok (.bipush 40, 2) := by decide +kernel
theorem dX3_paste_61 : decode cX3_paste 61 = .ok (.aload_n 0, 1) := by decide +kernel
theorem dX3_paste_62 : decode cX3_paste 62 = .ok (.getfield 7, 3) := by decide +kernel
theorem dX3_paste_65 : decode cX3_paste 65 = .ok (.iload_n 1, 1) := by decide +kernel
theorem dX3_paste_66 : decode cX3_paste 66 = .ok (.iaload, 1) := by decide +kernel
theorem dX3_paste_67 : decode cX3_paste 67 = .ok (.imul, 1) := by decide +kernel
theorem dX3_paste_68 : decode cX3_paste 68 = .ok (.iload_n 2, 1) := by decide +kernel
theorem dX3_paste_69 : decode cX3_paste 69 = .ok (.iadd, 1) := by decide +kernel
theorem dX3_paste_70 : decode cX3_paste 70 = .ok (.iload 4, 2) := by decide +kernel
theorem dX3_paste_72 : decode cX3_paste 72 = .ok (.ifCond .eq 12, 3) := by decide +kernel
theorem dX3_paste_75 : decode cX3_paste 75 = .ok (.iload_n 3, 1) := by decide +kernel
theorem dX3_paste_76 : decode cX3_paste 76 = .ok (.i2l, 1) := by decide +kernel
theorem dX3_paste_77 : decode cX3_paste 77 = .ok (.ldc2_w 64, 3) := by decide +kernel
theorem dX3_paste_80 : decode cX3_paste 80 = .ok (.ladd, 1) := by decide +kernel
theorem dX3_paste_81 : decode cX3_paste 81 = .ok (.goto 5, 3) := by decide +kernel
theorem dX3_paste_84 : decode cX3_paste 84 = .ok (.iload_n 3, 1) := by decide +kernel
theorem dX3_paste_85 : decode cX3_paste 85 = .ok (.i2l, 1) := by decide +kernel
theorem dX3_paste_86 : decode cX3_paste 86 = .ok (.lastore, 1) := by decide +kernel
theorem dX3_paste_87 : decode cX3_paste 87 = .ok (.iconst 1, 1) := by decide +kernel
theorem dX3_paste_88 : decode cX3_paste 88 = .ok (.ireturn, 1) := by decide +kernel
theorem dX3_pull_0 : decode cX3_pull 0 = .ok (.aload_n 0, 1) := by decide +kernel
theorem dX3_pull_1 : decode cX3_pull 1 = .ok (.iload_n 1, 1) := by decide +kernel
theorem dX3_pull_2 : decode cX3_pull 2 = .ok (.invokestatic 41, 3) := by decide +kernel
theorem dX3_pull_5 : decode cX3_pull 5 = .ok (.ifCond .ne 7, 3) := by decide +kernel
theorem dX3_pull_8 : decode cX3_pull 8 = .ok (.iconst 1, 1) := by decide +kernel
theorem dX3_pull_9 : decode cX3_pull 9 = .ok (.goto 9, 3) := by decide +kernel
theorem dX3_pull_12 : decode cX3_pull 12 = .ok (.aload_n 0, 1) := by decide +kernel
theorem dX3_pull_13 : decode cX3_pull 13 = .ok (.iload_n 1, 1) := by decide +kernel
theorem dX3_pull_14 : decode cX3_pull 14 = .ok (.iload_n 2, 1) := by decide +kernel
theorem dX3_pull_15 : decode cX3_pull 15 = .ok (.invokevirtual 60, 3) := by decide +kernel
theorem dX3_pull_18 : decode cX3_pull 18 = .ok (.putfield 29, 3) := by decide +kernel
theorem dX3_pull_21 : decode cX3_pull 21 = .ok (.aload_n 0, 1) := by decide +kernel
theorem dX3_pull_22 : decode cX3_pull 22 = .ok (.getfield 29, 3) := by decide +kernel
theorem dX3_pull_25 : decode cX3_pull 25 = .ok (.ifCond .le 5, 3) := by decide +kernel
theorem dX3_pull_28 : decode cX3_pull 28 = .ok (.iconst 0, 1) := by decide +kernel
theorem dX3_pull_29 : decode cX3_pull 29 = .ok (.ireturn, 1) := by decide +kernel
theorem dX3_pull_30 : decode cX3_pull 30 = .ok (.bipush 40, 2) := by decide +kernel
theorem dX3_pull_32 : decode cX3_pull 32 = .ok (.aload_n 0, 1) := by decide +kernel
theorem dX3_pull_33 : decode cX3_pull 33 = .ok (.getfield 7, 3) := by decide +kernel
theorem dX3_pull_36 : decode cX3_pull 36 = .ok (.iload_n 1, 1) := by decide +kernel
theorem dX3_pull_37 : decode cX3_pull 37 = .ok (.iaload, 1) := by decide +kernel
theorem dX3_pull_38 : decode cX3_pull 38 = .ok (.imul, 1) := by decide +kernel
theorem dX3_pull_39 : decode cX3_pull 39 = .ok (.iload_n 2, 1) := by decide +kernel
theorem dX3_pull_40 : decode cX3_pull 40 = .ok (.iadd, 1) := by decide +kernel
theorem dX3_pull_41 : decode cX3_pull 41 = .ok (.istore_n 3, 1) := by decide +kernel
theorem dX3_pull_42 : decode cX3_pull 42 = .ok (.aload_n 0, 1) := by decide +kernel
theorem dX3_pull_43 : decode cX3_pull 43 = .ok (.getfield 19, 3) := by decide +kernel
theorem dX3_pull_46 : decode cX3_pull 46 = .ok (.iload_n 3, 1) := by decide +kernel
theorem dX3_pull_47 : decode cX3_pull 47 = .ok (.laload, 1) := by decide +kernel
theorem dX3_pull_48 : decode cX3_pull 48 = .ok (.lconst 0, 1) := by decide +kernel
theorem dX3_pull_49 : decode cX3_pull 49 = .ok (.lcmp, 1) := by decide +kernel
theorem dX3_pull_50 : decode cX3_pull 50 = .ok (.ifCond .lt 7, 3) := by decide +kernel
theorem dX3_pull_53 : decode cX3_pull 53 = .ok (.iconst 1, 1) := by decide +kernel
theorem dX3_pull_54 : decode cX3_pull 54 = .ok (.goto 4, 3) := by decide +kernel
theorem dX3_pull_57 : decode cX3_pull 57 = .ok (.iconst 0, 1) := by decide +kernel
theorem dX3_pull_58 : decode cX3_pull 58 = .ok (.istore 4, 2) := by decide +kernel
theorem dX3_pull_60 : decode cX3_pull 60 = .ok (.aload_n 0, 1) := by decide +kernel
theorem dX3_pull_61 : decode cX3_pull 61 = .ok (.getfield 19, 3) := by decide +kernel
theorem dX3_pull_64 : decode cX3_pull 64 = .ok (.iload_n 3, 1) := by decide +kernel
theorem dX3_pull_65 : decode cX3_pull 65 = .ok (.ldc2_w 49, 3) := by decide +kernel
theorem dX3_pull_68 : decode cX3_pull 68 = .ok (.lastore, 1) := by decide +kernel
theorem dX3_pull_69 : decode cX3_pull 69 = .ok (.iload 4, 2) := by decide +kernel
theorem dX3_pull_71 : decode cX3_pull 71 = .ok (.ireturn, 1) := by decide +kernel
theorem dX3_frame_0 : decode cX3_frame 0 = .ok (.aload_n 0, 1) := by decide +kernel
theorem dX3_frame_1 : decode cX3_frame 1 = .ok (.iload_n 1, 1) := by decide +kernel
theorem dX3_frame_2 : decode cX3_frame 2 = .ok (.invokestatic 41, 3) := by decide +kernel
theorem dX3_frame_5 : decode cX3_frame 5 = .ok (.ifCond .ne 7, 3) := by decide +kernel
theorem dX3_frame_8 : decode cX3_frame 8 = .ok (.iconst 1, 1) := by decide +kernel
theorem dX3_frame_9 : decode cX3_frame 9 = .ok (.goto 35, 3) := by decide +kernel
theorem dX3_frame_12 : decode cX3_frame 12 = .ok (.aload_n 0, 1) := by decide +kernel
theorem dX3_frame_13 : decode cX3_frame 13 = .ok (.iload_n 1, 1) := by decide +kernel
theorem dX3_frame_14 : decode cX3_frame 14 = .ok (.invokevirtual 51, 3) := by decide +kernel
theorem dX3_frame_17 : decode cX3_frame 17 = .ok (.ifCond .ne 7, 3) := by decide +kernel
theorem dX3_frame_20 : decode cX3_frame 20 = .ok (.iconst 2, 1) := by decide +kernel
theorem dX3_frame_21 : decode cX3_frame 21 = .ok (.goto 23, 3) := by decide +kernel
theorem dX3_frame_24 : decode cX3_frame 24 = .ok (.iload_n 2, 1) := by decide +kernel
theorem dX3_frame_25 : decode cX3_frame 25 = .ok (.iconst 0, 1) := by decide +kernel
theorem dX3_frame_26 : decode cX3_frame 26 = .ok (.aload_n 0, 1) := by decide +kernel
theorem dX3_frame_27 : decode cX3_frame 27 = .ok (.iload_n 1, 1) := by decide +kernel
theorem dX3_frame_28 : decode cX3_frame 28 = .ok (.invokevirtual 54, 3) := by decide +kernel
theorem dX3_frame_31 : decode cX3_frame 31 = .ok (.iconst 1, 1) := by decide +kernel
theorem dX3_frame_32 : decode cX3_frame 32 = .ok (.isub, 1) := by decide +kernel
theorem dX3_frame_33 : decode cX3_frame 33 = .ok (.invokestatic 33, 3) := by decide +kernel
theorem dX3_frame_36 : decode cX3_frame 36 = .ok (.ifCond .ne 7, 3) := by decide +kernel
theorem dX3_frame_39 : decode cX3_frame 39 = .ok (.iconst 3, 1) := by decide +kernel
theorem dX3_frame_40 : decode cX3_frame 40 = .ok (.goto 4, 3) := by decide +kernel
theorem dX3_frame_43 : decode cX3_frame 43 = .ok (.iconst 0, 1) := by decide +kernel
theorem dX3_frame_44 : decode cX3_frame 44 = .ok (.putfield 29, 3) := by decide +kernel
theorem dX3_frame_47 : decode cX3_frame 47 = .ok (.aload_n 0, 1) := by decide +kernel
theorem dX3_frame_48 : decode cX3_frame 48 = .ok (.getfield 29, 3) := by decide +kernel
theorem dX3_frame_51 : decode cX3_frame 51 = .ok (.ifCond .le 7, 3) := by decide +kernel
theorem dX3_frame_54 : decode cX3_frame 54 = .ok (.lconst 0, 1) := by decide +kernel
theorem dX3_frame_55 : decode cX3_frame 55 = .ok (.goto 19, 3) := by decide +kernel
theorem dX3_frame_58 : decode cX3_frame 58 = .ok (.aload_n 0, 1) := by decide +kernel
theorem dX3_frame_59 : decode cX3_frame 59 = .ok (.getfield 19, 3) := by decide +kernel
theorem dX3_frame_62 : decode cX3_frame 62 = .ok (.bipush 40, 2) := by decide +kernel
theorem dX3_frame_64 : decode cX3_frame 64 = .ok (.aload_n 0, 1) := by decide +kernel
theorem dX3_frame_65 : decode cX3_frame 65 = .ok (.getfield 7, 3) := by decide +kernel
theorem dX3_frame_68 : decode cX3_frame 68 = .ok (.iload_n 1, 1) := by decide +kernel
theorem dX3_frame_69 : decode cX3_frame 69 = .ok (.iaload, 1) := by decide +kernel
theorem dX3_frame_70 : decode cX3_frame 70 = .ok (.imul, 1) := by decide +kernel
theorem dX3_frame_71 : decode cX3_frame 71 = .ok (.iload_n 2, 1) := by decide +kernel
theorem dX3_frame_72 : decode cX3_frame 72 = .ok (.iadd, 1) := by decide +kernel
theorem dX3_frame_73 : decode cX3_frame 73 = .ok (.laload, 1) := by decide +kernel
theorem dX3_frame_74 : decode cX3_frame 74 = .ok (.lreturn, 1) := by decide +kernel
theorem dX3_against_0 : decode cX3_against 0 = .ok (.aload_n 0, 1) := by decide +kernel
theorem dX3_against_1 : decode cX3_against 1 = .ok (.iload_n 1, 1) := by decide +kernel
theorem dX3_against_2 : decode cX3_against 2 = .ok (.invokevirtual 37, 3) := by decide +kernel
theorem dX3_against_5 : decode cX3_against 5 = .ok (.istore 6, 2) := by decide +kernel
theorem dX3_against_7 : decode cX3_against 7 = .ok (.aload_n 0, 1) := by decide +kernel
theorem dX3_against_8 : decode cX3_against 8 = .ok (.iload_n 3, 1) := by decide +kernel
theorem dX3_against_9 : decode cX3_against 9 = .ok (.invokevirtual 37, 3) := by decide +kernel
theorem dX3_against_12 : decode cX3_against 12 = .ok (.istore 7, 2) := by decide +kernel
theorem dX3_against_14 : decode cX3_against 14 = .ok (.iload 6, 2) := by decide +kernel
theorem dX3_against_16 : decode cX3_against 16 = .ok (.ifCond .eq 8, 3) := by decide +kernel
theorem dX3_against_19 : decode cX3_against 19 = .ok (.iload 7, 2) := by decide +kernel
theorem dX3_against_21 : decode cX3_against 21 = .ok (.ifCond .ne 5, 3) := by decide +kernel
theorem dX3_against_24 : decode cX3_against 24 = .ok (.iconst (-1), 1) := by decide +kernel
theorem dX3_against_25 : decode cX3_against 25 = .ok (.ireturn, 1) := by decide +kernel
theorem dX3_against_26 : decode cX3_against 26 = .ok (.iload 6, 2) := by decide +kernel
theorem dX3_against_28 : decode cX3_against 28 = .ok (.iconst 3, 1) := by decide +kernel
theorem dX3_against_29 : decode cX3_against 29 = .ok (.if_icmp .lt 13, 3) := by decide +kernel
theorem dX3_against_32 : decode cX3_against 32 = .ok (.iload 7, 2) := by decide +kernel
theorem dX3_against_34 : decode cX3_against 34 = .ok (.iconst 3, 1) := by decide +kernel
theorem dX3_against_35 : decode cX3_against 35 = .ok (.if_icmp .lt 7, 3) := by decide +kernel
theorem dX3_against_38 : decode cX3_against 38 = .ok (.iconst 1, 1) := by decide +kernel
theorem dX3_against_39 : decode cX3_against 39 = .ok (.goto 4, 3) := by decide +kernel
theorem dX3_against_42 : decode cX3_against 42 = .ok (.iconst 0, 1) := by decide +kernel
theorem dX3_against_43 : decode cX3_against 43 = .ok (.istore 8, 2) := by decide +kernel
theorem dX3_against_45 : decode cX3_against 45 = .ok (.iload 6, 2) := by decide +kernel
theorem dX3_against_47 : decode cX3_against 47 = .ok (.iconst 5, 1) := by decide +kernel
theorem dX3_against_48 : decode cX3_against 48 = .ok (.if_icmp .eq 21, 3) := by decide +kernel
theorem dX3_against_51 : decode cX3_against 51 = .ok (.iload 7, 2) := by decide +kernel
theorem dX3_against_53 : decode cX3_against 53 = .ok (.iconst 5, 1) := by decide +kernel
theorem dX3_against_54 : decode cX3_against 54 = .ok (.if_icmp .eq 15, 3) := by decide +kernel
theorem dX3_against_57 : decode cX3_against 57 = .ok (.iload 8, 2) := by decide +kernel
theorem dX3_against_59 : decode cX3_against 59 = .ok (.ifCond .ne 13, 3) := by decide +kernel
theorem dX3_against_62 : decode cX3_against 62 = .ok (.iload 6, 2) := by decide +kernel
theorem dX3_against_64 : decode cX3_against 64 = .ok (.iload 7, 2) := by decide +kernel
theorem dX3_against_66 : decode cX3_against 66 = .ok (.if_icmp .eq 6, 3) := by decide +kernel
theorem dX3_against_69 : decode cX3_against 69 = .ok (.bipush (-2), 2) := by decide +kernel
theorem dX3_against_71 : decode cX3_against 71 = .ok (.ireturn, 1) := by decide +kernel
theorem dX3_against_72 : decode cX3_against 72 = .ok (.iload_n 2, 1) := by decide +kernel
theorem dX3_against_73 : decode cX3_against 73 = .ok (.ifCond .lt 50, 3) := by decide +kernel
theorem dX3_against_76 : decode cX3_against 76 = .ok (.iload 4, 2) := by decide +kernel
theorem dX3_against_78 : decode cX3_against 78 = .ok (.ifCond .lt 45, 3) := by decide +kernel
theorem dX3_against_81 : decode cX3_against 81 = .ok (.iload 5, 2) := by decide +kernel
theorem dX3_against_83 : decode cX3_against 83 = .ok (.ifCond .lt 40, 3) := by decide +kernel
theorem dX3_against_86 : decode cX3_against 86 = .ok (.iload_n 2, 1) := by decide +kernel
theorem dX3_against_87 : decode cX3_against 87 = .ok (.i2l, 1) := by decide +kernel
theorem dX3_against_88 : decode cX3_against 88 = .ok (.iload 5, 2) := by decide +kernel
theorem dX3_against_90 : decode cX3_against 90 = .ok (.i2l, 1) := by decide +kernel
theorem dX3_against_91 : decode cX3_against 91 = .ok (.ladd, 1) := by decide +kernel
theorem dX3_against_92 : decode cX3_against 92 = .ok (.aload_n 0, 1) := by decide +kernel
theorem dX3_against_93 : decode cX3_against 93 = .ok (.iload_n 1, 1) := by decide +kernel
theorem dX3_against_94 : decode cX3_against 94 = .ok (.invokevirtual 54, 3) := by decide +kernel
theorem dX3_against_97 : decode cX3_against 97 = .ok (.i2l, 1) := by decide +kernel
theorem dX3_against_98 : decode cX3_against 98 = .ok (.lcmp, 1) := by decide +kernel
theorem dX3_against_99 : decode cX3_against 99 = .ok (.ifCond .gt 24, 3) := by decide +kernel
theorem dX3_against_102 : decode cX3_against 102 = .ok (.iload 4, 2) := by decide +kernel
theorem dX3_against_104 : decode cX3_against 104 = .ok (.i2l, 1) := by decide +kernel
theorem dX3_against_105 : decode cX3_against 105 = .ok (.iload 5, 2) := by decide +kernel
theorem dX3_against_107 : decode cX3_against 107 = .ok (.i2l, 1) := by decide +kernel
theorem dX3_against_108 : decode cX3_against 108 = .ok (.ladd, 1) := by decide +kernel
theorem dX3_against_109 : decode cX3_against 109 = .ok (.aload_n 0, 1) := by decide +kernel
theorem dX3_against_110 : decode cX3_against 110 = .ok (.iload_n 3, 1) := by decide +kernel
theorem dX3_against_111 : decode cX3_against 111 = .ok (.invokevirtual 54, 3) := by decide +kernel
theorem dX3_against_114 : decode cX3_against 114 = .ok (.i2l, 1) := by decide +kernel
theorem dX3_against_115 : decode cX3_against 115 = .ok (.lcmp, 1) := by decide +kernel
theorem dX3_against_116 : decode cX3_against 116 = .ok (.ifCond .gt 7, 3) := by decide +kernel
theorem dX3_against_119 : decode cX3_against 119 = .ok (.iconst 1, 1) := by decide +kernel
theorem dX3_against_120 : decode cX3_against 120 = .ok (.goto 4, 3) := by decide +kernel
theorem dX3_against_123 : decode cX3_against 123 = .ok (.iconst 0, 1) := by decide +kernel
theorem dX3_against_124 : decode cX3_against 124 = .ok (.istore 9, 2) := by decide +kernel
theorem dX3_against_126 : decode cX3_against 126 = .ok (.iload 9, 2) := by decide +kernel
theorem dX3_against_128 : decode cX3_against 128 = .ok (.ifCond .eq 7, 3) := by decide +kernel
theorem dX3_against_131 : decode cX3_against 131 = .ok (.iconst 0, 1) := by decide +kernel
theorem dX3_against_132 : decode cX3_against 132 = .ok (.goto 5, 3) := by decide +kernel
theorem dX3_against_135 : decode cX3_against 135 = .ok (.bipush (-3), 2) := by decide +kernel
theorem dX3_against_137 : decode cX3_against 137 = .ok (.ireturn, 1) := by decide +kernel
theorem dX3_cut_0 : decode cX3_cut 0 = .ok (.aload_n 0, 1) := by decide +kernel
theorem dX3_cut_1 : decode cX3_cut 1 = .ok (.iload_n 1, 1) := by decide +kernel
theorem dX3_cut_2 : decode cX3_cut 2 = .ok (.iload_n 2, 1) := by decide +kernel
theorem dX3_cut_3 : decode cX3_cut 3 = .ok (.iload_n 3, 1) := by decide +kernel
theorem dX3_cut_4 : decode cX3_cut 4 = .ok (.iload 4, 2) := by decide +kernel
theorem dX3_cut_6 : decode cX3_cut 6 = .ok (.iload 5, 2) := by decide +kernel
theorem dX3_cut_8 : decode cX3_cut 8 = .ok (.invokevirtual 66, 3) := by decide +kernel
theorem dX3_cut_11 : decode cX3_cut 11 = .ok (.istore 6, 2) := by decide +kernel
theorem dX3_cut_13 : decode cX3_cut 13 = .ok (.aload_n 0, 1) := by decide +kernel
theorem dX3_cut_14 : decode cX3_cut 14 = .ok (.iconst 0, 1) := by decide +kernel
theorem dX3_cut_15 : decode cX3_cut 15 = .ok (.putfield 70, 3) := by decide +kernel
theorem dX3_cut_18 : decode cX3_cut 18 = .ok (.iload 6, 2) := by decide +kernel
theorem dX3_cut_20 : decode cX3_cut 20 = .ok (.ifCond .ne 139, 3) := by decide +kernel
theorem dX3_cut_23 : decode cX3_cut 23 = .ok (.iconst 0, 1) := by decide +kernel
theorem dX3_cut_24 : decode cX3_cut 24 = .ok (.istore 7, 2) := by decide +kernel
theorem dX3_cut_26 : decode cX3_cut 26 = .ok (.iload 7, 2) := by decide +kernel
theorem dX3_cut_28 : decode cX3_cut 28 = .ok (.iload 5, 2) := by decide +kernel
theorem dX3_cut_30 : decode cX3_cut 30 = .ok (.if_icmp .ge 35, 3) := by decide +kernel
theorem dX3_cut_33 : decode cX3_cut 33 = .ok (.aload_n 0, 1) := by decide +kernel
theorem dX3_cut_34 : decode cX3_cut 34 = .ok (.getfield 23, 3) := by decide +kernel
theorem dX3_cut_37 : decode cX3_cut 37 = .ok (.iload 7, 2) := by decide +kernel
theorem dX3_cut_39 : decode cX3_cut 39 = .ok (.aload_n 0, 1) := by decide +kernel
theorem dX3_cut_40 : decode cX3_cut 40 = .ok (.getfield 19, 3) := by decide +kernel
theorem dX3_cut_43 : decode cX3_cut 43 = .ok (.bipush 40, 2) := by decide +kernel
theorem dX3_cut_45 : decode cX3_cut 45 = .ok (.aload_n 0, 1) := by decide +kernel
theorem dX3_cut_46 : decode cX3_cut 46 = .ok (.getfield 7, 3) := by decide +kernel
theorem dX3_cut_49 : decode cX3_cut 49 = .ok (.iload_n 1, 1) := by decide +kernel
theorem dX3_cut_50 : decode cX3_cut 50 = .ok (.iaload, 1) := by decide +kernel
theorem dX3_cut_51 : decode cX3_cut 51 = .ok (.imul, 1) := by decide +kernel
theorem dX3_cut_52 : decode cX3_cut 52 = .ok (.iload_n 2, 1) := by decide +kernel
theorem dX3_cut_53 : decode cX3_cut 53 = .ok (.iadd, 1) := by decide +kernel
theorem dX3_cut_54 : decode cX3_cut 54 = .ok (.iload 7, 2) := by decide +kernel
theorem dX3_cut_56 : decode cX3_cut 56 = .ok (.iadd, 1) := by decide +kernel
theorem dX3_cut_57 : decode cX3_cut 57 = .ok (.laload, 1) := by decide +kernel
theorem dX3_cut_58 : decode cX3_cut 58 = .ok (.lastore, 1) := by decide +kernel
theorem dX3_cut_59 : decode cX3_cut 59 = .ok (.iinc 7 1, 3) := by decide +kernel
theorem dX3_cut_62 : decode cX3_cut 62 = .ok (.goto (-36), 3) := by decide +kernel
theorem dX3_cut_65 : decode cX3_cut 65 = .ok (.aload_n 0, 1) := by decide +kernel
theorem dX3_cut_66 : decode cX3_cut 66 = .ok (.getfield 70, 3) := by decide +kernel
theorem dX3_cut_69 : decode cX3_cut 69 = .ok (.iload 5, 2) := by decide +kernel
theorem dX3_cut_71 : decode cX3_cut 71 = .ok (.if_icmp .ge 88, 3) := by decide +kernel
theorem dX3_cut_74 : decode cX3_cut 74 = .ok (.iload 6, 2) := by decide +kernel
theorem dX3_cut_76 : decode cX3_cut 76 = .ok (.ifCond .ne 83, 3) := by decide +kernel
theorem dX3_cut_79 : decode cX3_cut 79 = .ok (.aload_n 0, 1) := by decide +kernel
theorem dX3_cut_80 : decode cX3_cut 80 = .ok (.iload_n 3, 1) := by decide +kernel
theorem dX3_cut_81 : decode cX3_cut 81 = .ok (.invokevirtual 37, 3) := by decide +kernel
theorem dX3_cut_84 : decode cX3_cut 84 = .ok (.iconst 4, 1) := by decide +kernel
theorem dX3_cut_85 : decode cX3_cut 85 = .ok (.if_icmp .ne 30, 3) := by decide +kernel
theorem dX3_cut_88 : decode cX3_cut 88 = .ok (.aload_n 0, 1) := by decide +kernel
theorem dX3_cut_89 : decode cX3_cut 89 = .ok (.getfield 23, 3) := by decide +kernel
theorem dX3_cut_92 : decode cX3_cut 92 = .ok (.aload_n 0, 1) := by decide +kernel
theorem dX3_cut_93 : decode cX3_cut 93 = .ok (.getfield 70, 3) := by decide +kernel
theorem dX3_cut_96 : decode cX3_cut 96 = .ok (.laload, 1) := by decide +kernel
theorem dX3_cut_97 : decode cX3_cut 97 = .ok (.l2i, 1) := by decide +kernel
theorem dX3_cut_98 : decode cX3_cut 98 = .ok (.iconst 0, 1) := by decide +kernel
theorem dX3_cut_99 : decode cX3_cut 99 = .ok (.sipush 999, 3) := by decide +kernel
theorem dX3_cut_102 : decode cX3_cut 102 = .ok (.invokestatic 33, 3) := by decide +kernel
theorem dX3_cut_105 : decode cX3_cut 105 = .ok (.ifCond .eq 10, 3) := by decide +kernel
theorem dX3_cut_108 : decode cX3_cut 108 = .ok (.bipush (-4), 2) := by decide +kernel
theorem dX3_cut_110 : decode cX3_cut 110 = .ok (.istore 6, 2) := by decide +kernel
theorem dX3_cut_112 : decode cX3_cut 112 = .ok (.goto (-47), 3) := by decide +kernel
theorem dX3_cut_115 : decode cX3_cut 115 = .ok (.aload_n 0, 1) := by decide +kernel
theorem dX3_cut_116 : decode cX3_cut 116 = .ok (.getfield 19, 3) := by decide +kernel
theorem dX3_cut_119 : decode cX3_cut 119 = .ok (.bipush 40, 2) := by decide +kernel
theorem dX3_cut_121 : decode cX3_cut 121 = .ok (.aload_n 0, 1) := by decide +kernel
theorem dX3_cut_122 : decode cX3_cut 122 = .ok (.getfield 7, 3) := by decide +kernel
theorem dX3_cut_125 : decode cX3_cut 125 = .ok (.iload_n 3, 1) := by decide +kernel
theorem dX3_cut_126 : decode cX3_cut 126 = .ok (.iaload, 1) := by decide +kernel
theorem dX3_cut_127 : decode cX3_cut 127 = .ok (.imul, 1) := by decide +kernel
theorem dX3_cut_128 : decode cX3_cut 128 = .ok (.iload 4, 2) := by decide +kernel
theorem dX3_cut_130 : decode cX3_cut 130 = .ok (.iadd, 1) := by decide +kernel
theorem dX3_cut_131 : decode cX3_cut 131 = .ok (.aload_n 0, 1) := by decide +kernel
theorem dX3_cut_132 : decode cX3_cut 132 = .ok (.getfield 70, 3) := by decide +kernel
theorem dX3_cut_135 : decode cX3_cut 135 = .ok (.iadd, 1) := by decide +kernel
theorem dX3_cut_136 : decode cX3_cut 136 = .ok (.aload_n 0, 1) := by decide +kernel
theorem dX3_cut_137 : decode cX3_cut 137 = .ok (.getfield 23, 3) := by decide +kernel
theorem dX3_cut_140 : decode cX3_cut 140 = .ok (.aload_n 0, 1) := by decide +kernel
theorem dX3_cut_141 : decode cX3_cut 141 = .ok (.getfield 70, 3) := by decide +kernel
theorem dX3_cut_144 : decode cX3_cut 144 = .ok (.laload, 1) := by decide +kernel
theorem dX3_cut_145 : decode cX3_cut 145 = .ok (.lastore, 1) := by decide +kernel
theorem dX3_cut_146 : decode cX3_cut 146 = .ok (.aload_n 0, 1) := by decide +kernel
theorem dX3_cut_147 : decode cX3_cut 147 = .ok (.dup, 1) := by decide +kernel
theorem dX3_cut_148 : decode cX3_cut 148 = .ok (.getfield 70, 3) := by decide +kernel
theorem dX3_cut_151 : decode cX3_cut 151 = .ok (.iconst 1, 1) := by decide +kernel
theorem dX3_cut_152 : decode cX3_cut 152 = .ok (.iadd, 1) := by decide +kernel
theorem dX3_cut_153 : decode cX3_cut 153 = .ok (.putfield 70, 3) := by decide +kernel
theorem dX3_cut_156 : decode cX3_cut 156 = .ok (.goto (-91), 3) := by decide +kernel
theorem dX3_cut_159 : decode cX3_cut 159 = .ok (.aload_n 0, 1) := by decide +kernel
theorem dX3_cut_160 : decode cX3_cut 160 = .ok (.dup, 1) := by decide +kernel
theorem dX3_cut_161 : decode cX3_cut 161 = .ok (.getfield 73, 3) := by decide +kernel
theorem dX3_cut_164 : decode cX3_cut 164 = .ok (.aload_n 0, 1) := by decide +kernel
theorem dX3_cut_165 : decode cX3_cut 165 = .ok (.getfield 70, 3) := by decide +kernel
theorem dX3_cut_168 : decode cX3_cut 168 = .ok (.iadd, 1) := by decide +kernel
theorem dX3_cut_169 : decode cX3_cut 169 = .ok (.putfield 73, 3) := by decide +kernel
