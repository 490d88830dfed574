theorem dX0_init_0 : decode cX0_init 0 = .ok (.aload_n 0, 1) := by decide +kernel
theorem dX0_init_1 : decode cX0_init 1 = .ok (.invokespecial 3, 3) := by decide +kernel
theorem dX0_init_4 : decode cX0_init 4 = .ok (.return_, 1) := by decide +kernel
theorem dX0_isBlunt_0 : decode cX0_isBlunt 0 = .ok (.aload_n 0, 1) := by decide +kernel
theorem dX0_isBlunt_1 : decode cX0_isBlunt 1 = .ok (.getfield 9, 3) := by decide +kernel
theorem dX0_isBlunt_4 : decode cX0_isBlunt 4 = .ok (.iconst 3, 1) := by decide +kernel
theorem dX0_isBlunt_5 : decode cX0_isBlunt 5 = .ok (.if_icmp .lt 7, 3) := by decide +kernel
theorem dX0_isBlunt_8 : decode cX0_isBlunt 8 = .ok (.iconst 1, 1) := by decide +kernel
theorem dX0_isBlunt_9 : decode cX0_isBlunt 9 = .ok (.goto 4, 3) := by decide +kernel
theorem dX0_isBlunt_12 : decode cX0_isBlunt 12 = .ok (.iconst 0, 1) := by decide +kernel
theorem dX0_isBlunt_13 : decode cX0_isBlunt 13 = .ok (.ireturn, 1) := by decide +kernel
theorem dX0_sharpen_0 : decode cX0_sharpen 0 = .ok (.aload_n 0, 1) := by decide +kernel
theorem dX0_sharpen_1 : decode cX0_sharpen 1 = .ok (.iconst 0, 1) := by decide +kernel
theorem dX0_sharpen_2 : decode cX0_sharpen 2 = .ok (.putfield 9, 3) := by decide +kernel
theorem dX0_sharpen_5 : decode cX0_sharpen 5 = .ok (.aload_n 0, 1) := by decide +kernel
theorem dX0_sharpen_6 : decode cX0_sharpen 6 = .ok (.dup, 1) := by decide +kernel
theorem dX0_sharpen_7 : decode cX0_sharpen 7 = .ok (.getfield 15, 3) := by decide +kernel
theorem dX0_sharpen_10 : decode cX0_sharpen 10 = .ok (.iconst 1, 1) := by decide +kernel
theorem dX0_sharpen_11 : decode cX0_sharpen 11 = .ok (.iadd, 1) := by decide +kernel
theorem dX0_sharpen_12 : decode cX0_sharpen 12 = .ok (.putfield 15, 3) := by decide +kernel
theorem dX0_sharpen_15 : decode cX0_sharpen 15 = .ok (.return_, 1) := by decide +kernel
theorem dX0_cut_0 : decode cX0_cut 0 = .ok (.aload_n 0, 1) := by decide +kernel
theorem dX0_cut_1 : decode cX0_cut 1 = .ok (.iconst 0, 1) := by decide +kernel
theorem dX0_cut_2 : decode cX0_cut 2 = .ok (.putfield 18, 3) := by decide +kernel
theorem dX0_cut_5 : decode cX0_cut 5 = .ok (.aload_n 0, 1) := by decide +kernel
theorem dX0_cut_6 : decode cX0_cut 6 = .ok (.aload_n 0, 1) := by decide +kernel
theorem dX0_cut_7 : decode cX0_cut 7 = .ok (.aload_n 1, 1) := by decide +kernel
theorem dX0_cut_8 : decode cX0_cut 8 = .ok (.iload_n 2, 1) := by decide +kernel
theorem dX0_cut_9 : decode cX0_cut 9 = .ok (.aload_n 3, 1) := by decide +kernel
theorem dX0_cut_10 : decode cX0_cut 10 = .ok (.iload 4, 2) := by decide +kernel
theorem dX0_cut_12 : decode cX0_cut 12 = .ok (.iload 5, 2) := by decide +kernel
theorem dX0_cut_14 : decode cX0_cut 14 = .ok (.invokevirtual 21, 3) := by decide +kernel
theorem dX0_cut_17 : decode cX0_cut 17 = .ok (.putfield 25, 3) := by decide +kernel
theorem dX0_cut_20 : decode cX0_cut 20 = .ok (.aload_n 0, 1) := by decide +kernel
theorem dX0_cut_21 : decode cX0_cut 21 = .ok (.dup, 1) := by decide +kernel
theorem dX0_cut_22 : decode cX0_cut 22 = .ok (.getfield 28, 3) := by decide +kernel
theorem dX0_cut_25 : decode cX0_cut 25 = .ok (.aload_n 0, 1) := by decide +kernel
theorem dX0_cut_26 : decode cX0_cut 26 = .ok (.getfield 18, 3) := by decide +kernel
theorem dX0_cut_29 : decode cX0_cut 29 = .ok (.iadd, 1) := by decide +kernel
theorem dX0_cut_30 : decode cX0_cut 30 = .ok (.putfield 28, 3) := by decide +kernel
theorem dX0_cut_33 : decode cX0_cut 33 = .ok (.aload_n 0, 1) := by decide +kernel
theorem dX0_cut_34 : decode cX0_cut 34 = .ok (.getfield 25, 3) := by decide +kernel
theorem dX0_cut_37 : decode cX0_cut 37 = .ok (.ifCond .ge 26, 3) := by decide +kernel
theorem dX0_cut_40 : decode cX0_cut 40 = .ok (.aload_n 0, 1) := by decide +kernel
theorem dX0_cut_41 : decode cX0_cut 41 = .ok (.dup, 1) := by decide +kernel
theorem dX0_cut_42 : decode cX0_cut 42 = .ok (.getfield 31, 3) := by decide +kernel
theorem dX0_cut_45 : decode cX0_cut 45 = .ok (.iconst 1, 1) := by decide +kernel
theorem dX0_cut_46 : decode cX0_cut 46 = .ok (.iadd, 1) := by decide +kernel
theorem dX0_cut_47 : decode cX0_cut 47 = .ok (.putfield 31, 3) := by decide +kernel
theorem dX0_cut_50 : decode cX0_cut 50 = .ok (.aload_n 0, 1) := by decide +kernel
theorem dX0_cut_51 : decode cX0_cut 51 = .ok (.dup, 1) := by decide +kernel
theorem dX0_cut_52 : decode cX0_cut 52 = .ok (.getfield 9, 3) := by decide +kernel
theorem dX0_cut_55 : decode cX0_cut 55 = .ok (.iconst 1, 1) := by decide +kernel
theorem dX0_cut_56 : decode cX0_cut 56 = .ok (.iadd, 1) := by decide +kernel
theorem dX0_cut_57 : decode cX0_cut 57 = .ok (.putfield 9, 3) := by decide +kernel
theorem dX0_cut_60 : decode cX0_cut 60 = .ok (.goto 18, 3) := by decide +kernel
theorem dX0_cut_63 : decode cX0_cut 63 = .ok (.aload_n 0, 1) := by decide +kernel
theorem dX0_cut_64 : decode cX0_cut 64 = .ok (.dup, 1) := by decide +kernel
theorem dX0_cut_65 : decode cX0_cut 65 = .ok (.getfield 34, 3) := by decide +kernel
theorem dX0_cut_68 : decode cX0_cut 68 = .ok (.iconst 1, 1) := by decide +kernel
theorem dX0_cut_69 : decode cX0_cut 69 = .ok (.iadd, 1) := by decide +kernel
theorem dX0_cut_70 : decode cX0_cut 70 = .ok (.putfield 34, 3) := by decide +kernel
theorem dX0_cut_73 : decode cX0_cut 73 = .ok (.aload_n 0, 1) := by decide +kernel
theorem dX0_cut_74 : decode cX0_cut 74 = .ok (.iconst 0, 1) := by decide +kernel
theorem dX0_cut_75 : decode cX0_cut 75 = .ok (.putfield 9, 3) := by decide +kernel
theorem dX0_cut_78 : decode cX0_cut 78 = .ok (.aload_n 0, 1) := by decide +kernel
theorem dX0_cut_79 : decode cX0_cut 79 = .ok (.getfield 25, 3) := by decide +kernel
theorem dX0_cut_82 : decode cX0_cut 82 = .ok (.ireturn, 1) := by decide +kernel
theorem dX0_lay_0 : decode cX0_lay 0 = .ok (.aload_n 1, 1) := by decide +kernel
theorem dX0_lay_1 : decode cX0_lay 1 = .ok (.ifnull 7, 3) := by decide +kernel
theorem dX0_lay_4 : decode cX0_lay 4 = .ok (.aload_n 3, 1) := by decide +kernel
theorem dX0_lay_5 : decode cX0_lay 5 = .ok (.ifnonnull 5, 3) := by decide +kernel
theorem dX0_lay_8 : decode cX0_lay 8 = .ok (.iconst (-1), 1) := by decide +kernel
theorem dX0_lay_9 : decode cX0_lay 9 = .ok (.ireturn, 1) := by decide +kernel
theorem dX0_lay_10 : decode cX0_lay 10 = .ok (.aload_n 1, 1) := by decide +kernel
theorem dX0_lay_11 : decode cX0_lay 11 = .ok (.aload_n 3, 1) := by decide +kernel
theorem dX0_lay_12 : decode cX0_lay 12 = .ok (.invokevirtual 37, 3) := by decide +kernel
theorem dX0_lay_15 : decode cX0_lay 15 = .ok (.ifCond .ne 6, 3) := by decide +kernel
theorem dX0_lay_18 : decode cX0_lay 18 = .ok (.bipush (-2), 2) := by decide +kernel
theorem dX0_lay_20 : decode cX0_lay 20 = .ok (.ireturn, 1) := by decide +kernel
theorem dX0_lay_21 : decode cX0_lay 21 = .ok (.aload_n 1, 1) := by decide +kernel
theorem dX0_lay_22 : decode cX0_lay 22 = .ok (.iload_n 2, 1) := by decide +kernel
theorem dX0_lay_23 : decode cX0_lay 23 = .ok (.iload 5, 2) := by decide +kernel
theorem dX0_lay_25 : decode cX0_lay 25 = .ok (.invokevirtual 43, 3) := by decide +kernel
theorem dX0_lay_28 : decode cX0_lay 28 = .ok (.ifCond .eq 14, 3) := by decide +kernel
theorem dX0_lay_31 : decode cX0_lay 31 = .ok (.aload_n 3, 1) := by decide +kernel
theorem dX0_lay_32 : decode cX0_lay 32 = .ok (.iload 4, 2) := by decide +kernel
theorem dX0_lay_34 : decode cX0_lay 34 = .ok (.iload 5, 2) := by decide +kernel
theorem dX0_lay_36 : decode cX0_lay 36 = .ok (.invokevirtual 43, 3) := by decide +kernel
theorem dX0_lay_39 : decode cX0_lay 39 = .ok (.ifCond .ne 6, 3) := by decide +kernel
theorem dX0_lay_42 : decode cX0_lay 42 = .ok (.bipush (-3), 2) := by decide +kernel
theorem dX0_lay_44 : decode cX0_lay 44 = .ok (.ireturn, 1) := by decide +kernel
theorem dX0_lay_45 : decode cX0_lay 45 = .ok (.aload_n 0, 1) := by decide +kernel
theorem dX0_lay_46 : decode cX0_lay 46 = .ok (.getfield 18, 3) := by decide +kernel
theorem dX0_lay_49 : decode cX0_lay 49 = .ok (.iload 5, 2) := by decide +kernel
theorem dX0_lay_51 : decode cX0_lay 51 = .ok (.if_icmp .ge 34, 3) := by decide +kernel
theorem dX0_lay_54 : decode cX0_lay 54 = .ok (.aload_n 3, 1) := by decide +kernel
theorem dX0_lay_55 : decode cX0_lay 55 = .ok (.aload_n 1, 1) := by decide +kernel
theorem dX0_lay_56 : decode cX0_lay 56 = .ok (.getfield 47, 3) := by decide +kernel
theorem dX0_lay_59 : decode cX0_lay 59 = .ok (.iload_n 2, 1) := by decide +kernel
theorem dX0_lay_60 : decode cX0_lay 60 = .ok (.aload_n 0, 1) := by decide +kernel
theorem dX0_lay_61 : decode cX0_lay 61 = .ok (.getfield 18, 3) := by decide +kernel
theorem dX0_lay_64 : decode cX0_lay 64 = .ok (.iadd, 1) := by decide +kernel
theorem dX0_lay_65 : decode cX0_lay 65 = .ok (.laload, 1) := by decide +kernel
theorem dX0_lay_66 : decode cX0_lay 66 = .ok (.invokevirtual 51, 3) := by decide +kernel
theorem dX0_lay_69 : decode cX0_lay 69 = .ok (.ifCond .eq 16, 3) := by decide +kernel
theorem dX0_lay_72 : decode cX0_lay 72 = .ok (.aload_n 0, 1) := by decide +kernel
theorem dX0_lay_73 : decode cX0_lay 73 = .ok (.dup, 1) := by decide +kernel
theorem dX0_lay_74 : decode cX0_lay 74 = .ok (.getfield 18, 3) := by decide +kernel
theorem dX0_lay_77 : decode cX0_lay 77 = .ok (.iconst 1, 1) := by decide +kernel
theorem dX0_lay_78 : decode cX0_lay 78 = .ok (.iadd, 1) := by decide +kernel
theorem dX0_lay_79 : decode cX0_lay 79 = .ok (.putfield 18, 3) := by decide +kernel
theorem dX0_lay_82 : decode cX0_lay 82 = .ok (.goto (-37), 3) := by decide +kernel
theorem dX0_lay_85 : decode cX0_lay 85 = .ok (.aload_n 1, 1) := by decide +kernel
theorem dX0_lay_86 : decode cX0_lay 86 = .ok (.getfield 47, 3) := by decide +kernel
theorem dX0_lay_89 : decode cX0_lay 89 = .ok (.iload_n 2, 1) := by decide +kernel
theorem dX0_lay_90 : decode cX0_lay 90 = .ok (.aload_n 3, 1) := by decide +kernel
theorem dX0_lay_91 : decode cX0_lay 91 = .ok (.getfield 47, 3) := by decide +kernel
theorem dX0_lay_94 : decode cX0_lay 94 = .ok (.iload 4, 2) := by decide +kernel
theorem dX0_lay_96 : decode cX0_lay 96 = .ok (.aload_n 0, 1) := by decide +kernel
theorem dX0_lay_97 : decode cX0_lay 97 = .ok (.getfield 18, 3) := by decide +kernel
theorem dX0_lay_100 : decode cX0_lay 100 = .ok (.invokestatic 55, 3) := by decide +kernel
theorem dX0_lay_103 : decode cX0_lay 103 = .ok (.aload_n 0, 1) := by decide +kernel
theorem dX0_lay_104 : decode cX0_lay 104 = .ok (.getfield 18, 3) := by decide +kernel
theorem dX0_lay_107 : decode cX0_lay 107 = .ok (.iload 5, 2) := by decide +kernel
theorem dX0_lay_109 : decode cX0_lay 109 = .ok (.if_icmp .ge 8, 3) := by decide +kernel
theorem dX0_lay_112 : decode cX0_lay 112 = .ok (.bipush (-4), 2) := by decide +kernel
theorem dX0_lay_114 : decode cX0_lay 114 = .ok (.goto 5, 3) := by decide +kernel
theorem dX0_lay_117 : decode cX0_lay 117 = .ok (.iload 5, 2) := by decide +kernel
theorem dX0_lay_119 : decode cX0_lay 119 = .ok (.ireturn, 1) := by decide +kernel
theorem dX1_init_0 : decode cX1_init 0 = .ok (.aload_n 0, 1) := by decide +kernel
theorem dX1_init_1 : decode cX1_init 1 = .ok (.invokespecial 3, 3) := by decide +kernel
theorem dX1_init_4 : decode cX1_init 4 = .ok (.aload_n 0, 1) := by decide +kernel
theorem dX1_init_5 : decode cX1_init 5 = .ok (.iload_n 1, 1) := by decide +kernel
theorem dX1_init_6 : decode cX1_init 6 = .ok (.putfield 9, 3) := by decide +kernel
theorem dX1_init_9 : decode cX1_init 9 = .ok (.aload_n 0, 1) := by decide +kernel
theorem dX1_init_10 : decode cX1_init 10 = .ok (.iload_n 2, 1) := by decide +kernel
theorem dX1_init_11 : decode cX1_init 11 = .ok (.newarray .long, 2) := by decide +kernel
theorem dX1_init_13 : decode cX1_init 13 = .ok (.putfield 15, 3) := by decide +kernel
theorem dX1_init_16 : decode cX1_init 16 = .ok (.iload_n 1, 1) := by decide +kernel
theorem dX1_init_17 : decode cX1_init 17 = .ok (.iconst 3, 1) := by decide +kernel
theorem dX1_init_18 : decode cX1_init 18 = .ok (.if_icmp .eq 8, 3) := by decide +kernel
theorem dX1_init_21 : decode cX1_init 21 = .ok (.iload_n 1, 1) := by decide +kernel
theorem dX1_init_22 : decode cX1_init 22 = .ok (.iconst 4, 1) := by decide +kernel
theorem dX1_init_23 : decode cX1_init 23 = .ok (.if_icmp .ne 25, 3) := by decide +kernel
theorem dX1_init_26 : decode cX1_init 26 = .ok (.iconst 0, 1) := by decide +kernel
theorem dX1_init_27 : decode cX1_init 27 = .ok (.istore_n 3, 1) := by decide +kernel
theorem dX1_init_28 : decode cX1_init 28 = .ok (.iload_n 3, 1) := by decide +kernel
theorem dX1_init_29 : decode cX1_init 29 = .ok (.iload_n 2, 1) := by decide +kernel
theorem dX1_init_30 : decode cX1_init 30 = .ok (.if_icmp .ge 18, 3) := by decide +kernel
theorem dX1_init_33 : decode cX1_init 33 = .ok (.aload_n 0, 1) := by decide +kernel
theorem dX1_init_34 : decode cX1_init 34 = .ok (.getfield 15, 3) := by decide +kernel
theorem dX1_init_37 : decode cX1_init 37 = .ok (.iload_n 3, 1) := by decide +kernel
theorem dX1_init_38 : decode cX1_init 38 = .ok (.ldc2_w 19, 3) := by decide +kernel
theorem dX1_init_41 : decode cX1_init 41 = .ok (.lastore, 1) := by decide +kernel
theorem dX1_init_42 : decode cX1_init 42 = .ok (.iinc 3 1, 3) := by decide +kernel
theorem dX1_init_45 : decode cX1_init 45 = .ok (.goto (-17), 3) := by decide +kernel
theorem dX1_init_48 : decode cX1_init 48 = .ok (.return_, 1) := by decide +kernel
theorem dX1_holdsNumbers_0 : decode cX1_holdsNumbers 0 = .ok (.aload_n 0, 1) := by decide +kernel
theorem dX1_holdsNumbers_1 : decode cX1_holdsNumbers 1 = .ok (.getfield 9, 3) := by decide +kernel
theorem dX1_holdsNumbers_4 : decode cX1_holdsNumbers 4 = .ok (.iconst 1, 1) := by decide +kernel
theorem dX1_holdsNumbers_5 : decode cX1_holdsNumbers 5 = .ok (.if_icmp .eq 11, 3) := by decide +kernel
theorem dX1_holdsNumbers_8 : decode cX1_holdsNumbers 8 = .ok (.aload_n 0, 1) := by decide +kernel
theorem dX1_holdsNumbers_9 : decode cX1_holdsNumbers 9 = .ok (.getfield 9, 3) := by decide +kernel
theorem dX1_holdsNumbers_12 : decode cX1_holdsNumbers 12 = .ok (.iconst 2, 1) := by decide +kernel
theorem dX1_holdsNumbers_13 : decode cX1_holdsNumbers 13 = .ok (.if_icmp .ne 7, 3) := by decide +kernel
theorem dX1_holdsNumbers_16 : decode cX1_holdsNumbers 16 = .ok (.iconst 1, 1) := by decide +kernel
theorem dX1_holdsNumbers_17 : decode cX1_holdsNumbers 17 = .ok (.goto 4, 3) := by decide +kernel
theorem dX1_holdsNumbers_20 : decode cX1_holdsNumbers 20 = .ok (.iconst 0, 1) := by decide +kernel
theorem dX1_holdsNumbers_21 : decode cX1_holdsNumbers 21 = .ok (.ireturn, 1) := by decide +kernel
theorem dX1_holdsCards_0 : decode cX1_holdsCards 0 = .ok (.aload_n 0, 1) := by decide +kernel
theorem dX1_holdsCards_1 : decode cX1_holdsCards 1 = .ok (.getfield 9, 3) := by decide +kernel
theorem dX1_holdsCards_4 : decode cX1_holdsCards 4 = .ok (.iconst 3, 1) := by decide +kernel
theorem dX1_holdsCards_5 : decode cX1_holdsCards 5 = .ok (.if_icmp .eq 11, 3) := by decide +kernel
theorem dX1_holdsCards_8 : decode cX1_holdsCards 8 = .ok (.aload_n 0, 1) := by decide +kernel
theorem dX1_holdsCards_9 : decode cX1_holdsCards 9 = .ok (.getfield 9, 3) := by decide +kernel
theorem dX1_holdsCards_12 : decode cX1_holdsCards 12 = .ok (.iconst 4, 1) := by decide +kernel
theorem dX1_holdsCards_13 : decode cX1_holdsCards 13 = .ok (.if_icmp .ne 7, 3) := by decide +kernel
theorem dX1_holdsCards_16 : decode cX1_holdsCards 16 = .ok (.iconst 1, 1) := by decide +kernel
theorem dX1_holdsCards_17 : decode cX1_holdsCards 17 = .ok (.goto 4, 3) := by decide +kernel
theorem dX1_holdsCards_20 : decode cX1_holdsCards 20 = .ok (.iconst 0, 1) := by decide +kernel
theorem dX1_holdsCards_21 : decode cX1_holdsCards 21 = .ok (.ireturn, 1) := by decide +kernel
theorem dX1_isLike_0 : decode cX1_isLike 0 = .ok (.aload_n 0, 1) := by decide +kernel
theorem dX1_isLike_1 : decode cX1_isLike 1 = .ok (.invokevirtual 21, 3) := by decide +kernel
theorem dX1_isLike_4 : decode cX1_isLike 4 = .ok (.ifCond .eq 10, 3) := by decide +kernel
theorem dX1_isLike_7 : decode cX1_isLike 7 = .ok (.aload_n 1, 1) := by decide +kernel
theorem dX1_isLike_8 : decode cX1_isLike 8 = .ok (.invokevirtual 21, 3) := by decide +kernel
theorem dX1_isLike_11 : decode cX1_isLike 11 = .ok (.goto 26, 3) := by decide +kernel
theorem dX1_isLike_14 : decode cX1_isLike 14 = .ok (.aload_n 0, 1) := by decide +kernel
theorem dX1_isLike_15 : decode cX1_isLike 15 = .ok (.invokevirtual 25, 3) := by decide +kernel
theorem dX1_isLike_18 : decode cX1_isLike 18 = .ok (.ifCond .eq 18, 3) := by decide +kernel
theorem dX1_isLike_21 : decode cX1_isLike 21 = .ok (.aload_n 0, 1) := by decide +kernel
theorem dX1_isLike_22 : decode cX1_isLike 22 = .ok (.getfield 9, 3) := by decide +kernel
theorem dX1_isLike_25 : decode cX1_isLike 25 = .ok (.aload_n 1, 1) := by decide +kernel
theorem dX1_isLike_26 : decode cX1_isLike 26 = .ok (.getfield 9, 3) := by decide +kernel
theorem dX1_isLike_29 : decode cX1_isLike 29 = .ok (.if_icmp .ne 7, 3) := by decide +kernel
theorem dX1_isLike_32 : decode cX1_isLike 32 = .ok (.iconst 1, 1) := by decide +kernel
theorem dX1_isLike_33 : decode cX1_isLike 33 = .ok (.goto 4, 3) := by decide +kernel
theorem dX1_isLike_36 : decode cX1_isLike 36 = .ok (.iconst 0, 1) := by decide +kernel
theorem dX1_isLike_37 : decode cX1_isLike 37 = .ok (.ireturn, 1) := by decide +kernel
theorem dX1_hasFrames_0 : decode cX1_hasFrames 0 = .ok (.iload_n 1, 1) := by decide +kernel
theorem dX1_hasFrames_1 : decode cX1_hasFrames 1 = .ok (.ifCond .lt 22, 3) := by decide +kernel
theorem dX1_hasFrames_4 : decode cX1_hasFrames 4 = .ok (.iload_n 2, 1) := by decide +kernel
theorem dX1_hasFrames_5 : decode cX1_hasFrames 5 = .ok (.ifCond .lt 18, 3) := by decide +kernel
theorem dX1_hasFrames_8 : decode cX1_hasFrames 8 = .ok (.iload_n 1, 1) := by decide +kernel
theorem dX1_hasFrames_9 : decode cX1_hasFrames 9 = .ok (.aload_n 0, 1) := by decide +kernel
theorem dX1_hasFrames_10 : decode cX1_hasFrames 10 = .ok (.getfield 15, 3) := by decide +kernel
theorem dX1_hasFrames_13 : decode cX1_hasFrames 13 = .ok (.arraylength, 1) := by decide +kernel
theorem dX1_hasFrames_14 : decode cX1_hasFrames 14 = .ok (.iload_n 2, 1) := by decide +kernel
theorem dX1_hasFrames_15 : decode cX1_hasFrames 15 = .ok (.isub, 1) := by decide +kernel
theorem dX1_hasFrames_16 : decode cX1_hasFrames 16 = .ok (.if_icmp .gt 7, 3) := by decide +kernel
theorem dX1_hasFrames_19 : decode cX1_hasFrames 19 = .ok (.iconst 1, 1) := by decide +kernel
theorem dX1_hasFrames_20 : decode cX1_hasFrames 20 = .ok (.goto 4, 3) := by decide +kernel
theorem dX1_hasFrames_23 : decode cX1_hasFrames 23 = .ok (.iconst 0, 1) := by decide +kernel
theorem dX1_hasFrames_24 : decode cX1_hasFrames 24 = .ok (.ireturn, 1) := by decide +kernel
theorem dX1_takes_0 : decode cX1_takes 0 = .ok (.aload_n 0, 1) := by decide +kernel
theorem dX1_takes_1 : decode cX1_takes 1 = .ok (.getfield 9, 3) := by decide +kernel
theorem dX1_takes_4 : decode cX1_takes 4 = .ok (.iconst 4, 1) := by decide +kernel
theorem dX1_takes_5 : decode cX1_takes 5 = .ok (.if_icmp .ne 19, 3) := by decide +kernel
theorem dX1_takes_8 : decode cX1_takes 8 = .ok (.lload_n 1, 1) := by decide +kernel
theorem dX1_takes_9 : decode cX1_takes 9 = .ok (.ldc2_w 19, 3) := by decide +kernel
theorem dX1_takes_12 : decode cX1_takes 12 = .ok (.lcmp, 1) := by decide +kernel
theorem dX1_takes_13 : decode cX1_takes 13 = .ok (.ifCond .eq 11, 3) := by decide +kernel
theorem dX1_takes_16 : decode cX1_takes 16 = .ok (.lload_n 1, 1) := by decide +kernel
theorem dX1_takes_17 : decode cX1_takes 17 = .ok (.ldc2_w 28, 3) := by decide +kernel
theorem dX1_takes_20 : decode cX1_takes 20 = .ok (.lcmp, 1) := by decide +kernel
theorem dX1_takes_21 : decode cX1_takes 21 = .ok (.ifCond .lt 7, 3) := by decide +kernel
theorem dX1_takes_24 : decode cX1_takes 24 = .ok (.iconst 1, 1) := by decide +kernel
theorem dX1_takes_25 : decode cX1_takes 25 = .ok (.goto 4, 3) := by decide +kernel
theorem dX1_takes_28 : decode cX1_takes 28 = .ok (.iconst 0, 1) := by decide +kernel
theorem dX1_takes_29 : decode cX1_takes 29 = .ok (.ireturn, 1) := by decide +kernel
theorem dX2_init_0 : decode cX2_init 0 = .ok (.aload_n 0, 1) := by decide +kernel
theorem dX2_init_1 : decode cX2_init 1 = .ok (.invokespecial 1, 3) := by decide +kernel
theorem dX2_init_4 : decode cX2_init 4 = .ok (.aload_n 0, 1) := by decide +kernel
theorem dX2_init_5 : decode cX2_init 5 = .ok (.bipush 6, 2) := by decide +kernel
theorem dX2_init_7 : decode cX2_init 7 = .ok (.anewarray 9, 3) := by decide +kernel
theorem dX2_init_10 : decode cX2_init 10 = .ok (.putfield 11, 3) := by decide +kernel
theorem dX2_init_13 : decode cX2_init 13 = .ok (.aload_n 0, 1) := by decide +kernel
theorem dX2_init_14 : decode cX2_init 14 = .ok (.new 15, 3) := by decide +kernel
theorem dX2_init_17 : decode cX2_init 17 = .ok (.dup, 1) := by decide +kernel
theorem dX2_init_18 : decode cX2_init 18 = .ok (.invokespecial 17, 3) := by decide +kernel
theorem dX2_init_21 : decode cX2_init 21 = .ok (.putfield 18, 3) := by decide +kernel
theorem dX2_init_24 : decode cX2_init 24 = .ok (.aload_n 0, 1) := by decide +kernel
theorem dX2_init_25 : decode cX2_init 25 = .ok (.bipush 24, 2) := by decide +kernel
theorem dX2_init_27 : decode cX2_init 27 = .ok (.newarray .int, 2) := by decide +kernel
theorem dX2_init_29 : decode cX2_init 29 = .ok (.putfield 22, 3) := by decide +kernel
theorem dX2_init_32 : decode cX2_init 32 = .ok (.aload_n 0, 1) := by decide +kernel
theorem dX2_init_33 : decode cX2_init 33 = .ok (.bipush 24, 2) := by decide +kernel
theorem dX2_init_35 : decode cX2_init 35 = .ok (.newarray .int, 2) := by decide +kernel
theorem dX2_init_37 : decode cX2_init 37 = .ok (.putfield 26, 3) := by decide +kernel
theorem dX2_init_40 : decode cX2_init 40 = .ok (.aload_n 0, 1) := by decide +kernel
theorem dX2_init_41 : decode cX2_init 41 = .ok (.bipush 24, 2) := by decide +kernel
theorem dX2_init_43 : decode cX2_init 43 = .ok (.newarray .int, 2) := by decide +kernel
theorem dX2_init_45 : decode cX2_init 45 = .ok (.putfield 29, 3) := by decide +kernel
theorem dX2_init_48 : decode cX2_init 48 = .ok (.aload_n 0, 1) := by decide +kernel
theorem dX2_init_49 : decode cX2_init 49 = .ok (.bipush 24, 2) := by decide +kernel
theorem dX2_init_51 : decode cX2_init 51 = .ok (.newarray .int, 2) := by decide +kernel
theorem dX2_init_53 : decode cX2_init 53 = .ok (.putfield 32, 3) := by decide +kernel
theorem dX2_init_56 : decode cX2_init 56 = .ok (.aload_n 0, 1) := by decide +kernel
theorem dX2_init_57 : decode cX2_init 57 = .ok (.bipush 24, 2) := by decide +kernel
theorem dX2_init_59 : decode cX2_init 59 = .ok (.newarray .int, 2) := by decide +kernel
theorem dX2_init_61 : decode cX2_init 61 = .ok (.putfield 35, 3) := by decide +kernel
theorem dX2_init_64 : decode cX2_init 64 = .ok (.aload_n 0, 1) := by decide +kernel
theorem dX2_init_65 : decode cX2_init 65 = .ok (.iconst 0, 1) := by decide +kernel
theorem dX2_init_66 : decode cX2_init 66 = .ok (.putfield 38, 3) := by decide +kernel
theorem dX2_init_69 : decode cX2_init 69 = .ok (.return_, 1) := by decide +kernel
theorem dX2_wind_0 : decode cX2_wind 0 = .ok (.iload_n 1, 1) := by decide +kernel
theorem dX2_wind_1 : decode cX2_wind 1 = .ok (.invokestatic 42, 3) := by decide +kernel
theorem dX2_wind_4 : decode cX2_wind 4 = .ok (.iload_n 2, 1) := by decide +kernel
theorem dX2_wind_5 : decode cX2_wind 5 = .ok (.ifCond .lt 8, 3) := by decide +kernel
theorem dX2_wind_8 : decode cX2_wind 8 = .ok (.iload_n 2, 1) := by decide +kernel
theorem dX2_wind_9 : decode cX2_wind 9 = .ok (.iconst 5, 1) := by decide +kernel
theorem dX2_wind_10 : decode cX2_wind 10 = .ok (.if_icmp .le 13, 3) := by decide +kernel
theorem dX2_wind_13 : decode cX2_wind 13 = .ok (.new 46, 3) := by decide +kernel
theorem dX2_wind_16 : decode cX2_wind 16 = .ok (.dup, 1) := by decide +kernel
theorem dX2_wind_17 : decode cX2_wind 17 = .ok (.ldc 48, 2) := by decide +kernel
theorem dX2_wind_19 : decode cX2_wind 19 = .ok (.invokespecial 50, 3) := by decide +kernel
theorem dX2_wind_22 : decode cX2_wind 22 = .ok (.athrow, 1) := by decide +kernel
theorem dX2_wind_23 : decode cX2_wind 23 = .ok (.iload_n 2, 1) := by decide +kernel
theorem dX2_wind_24 : decode cX2_wind 24 = .ok (.ifCond .ne 13, 3) := by decide +kernel
theorem dX2_wind_27 : decode cX2_wind 27 = .ok (.aload_n 0, 1) := by decide +kernel
theorem dX2_wind_28 : decode cX2_wind 28 = .ok (.getfield 11, 3) := by decide +kernel
theorem dX2_wind_31 : decode cX2_wind 31 = .ok (.iload_n 1, 1) := by decide +kernel
theorem dX2_wind_32 : decode cX2_wind 32 = .ok (.aconst_null, 1) := by decide +kernel
theorem dX2_wind_33 : decode cX2_wind 33 = .ok (.aastore, 1) := by decide +kernel
theorem dX2_wind_34 : decode cX2_wind 34 = .ok (.goto 64, 3) := by decide +kernel
theorem dX2_wind_37 : decode cX2_wind 37 = .ok (.iload_n 2, 1) := by decide +kernel
theorem dX2_wind_38 : decode cX2_wind 38 = .ok (.iconst 5, 1) := by decide +kernel
theorem dX2_wind_39 : decode cX2_wind 39 = .ok (.if_icmp .ne 21, 3) := by decide +kernel
theorem dX2_wind_42 : decode cX2_wind 42 = .ok (.aload_n 0, 1) := by decide +kernel
theorem dX2_wind_43 : decode cX2_wind 43 = .ok (.getfield 11, 3) := by decide +kernel
theorem dX2_wind_46 : decode cX2_wind 46 = .ok (.iload_n 1, 1) := by decide +kernel
theorem dX2_wind_47 : decode cX2_wind 47 = .ok (.new 9, 3) := by decide +kernel
theorem dX2_wind_50 : decode cX2_wind 50 = .ok (.dup, 1) := by decide +kernel
theorem dX2_wind_51 : decode cX2_wind 51 = .ok (.iconst 5, 1) := by decide +kernel
theorem dX2_wind_52 : decode cX2_wind 52 = .ok (.iconst 0, 1) := by decide +kernel
theorem dX2_wind_53 : decode cX2_wind 53 = .ok (.invokespecial 53, 3) := by decide +kernel
theorem dX2_wind_56 : decode cX2_wind 56 = .ok (.aastore, 1) := by decide +kernel
theorem dX2_wind_57 : decode cX2_wind 57 = .ok (.goto 41, 3) := by decide +kernel
theorem dX2_wind_60 : decode cX2_wind 60 = .ok (.iload_n 3, 1) := by decide +kernel
theorem dX2_wind_61 : decode cX2_wind 61 = .ok (.ifCond .lt 27, 3) := by decide +kernel
theorem dX2_wind_64 : decode cX2_wind 64 = .ok (.iload_n 3, 1) := by decide +kernel
theorem dX2_wind_65 : decode cX2_wind 65 = .ok (.bipush 40, 2) := by decide +kernel
theorem dX2_wind_67 : decode cX2_wind 67 = .ok (.if_icmp .gt 21, 3) := by decide +kernel
theorem dX2_wind_70 : decode cX2_wind 70 = .ok (.aload_n 0, 1) := by decide +kernel
theorem dX2_wind_71 : decode cX2_wind 71 = .ok (.getfield 11, 3) := by decide +kernel
theorem dX2_wind_74 : decode cX2_wind 74 = .ok (.iload_n 1, 1) := by decide +kernel
theorem dX2_wind_75 : decode cX2_wind 75 = .ok (.new 9, 3) := by decide +kernel
theorem dX2_wind_78 : decode cX2_wind 78 = .ok (.dup, 1) := by decide +kernel
theorem dX2_wind_79 : decode cX2_wind 79 = .ok (.iload_n 2, 1) := by decide +kernel
theorem dX2_wind_80 : decode cX2_wind 80 = .ok (.iload_n 3, 1) := by decide +kernel
theorem dX2_wind_81 : decode cX2_wind 81 = .ok (.invokespecial 53, 3) := by decide +kernel
theorem dX2_wind_84 : decode cX2_wind 84 = .ok (.aastore, 1) := by decide +kernel
theorem dX2_wind_85 : decode cX2_wind 85 = .ok (.goto 13, 3) := by decide +kernel
theorem dX2_wind_88 : decode cX2_wind 88 = .ok (.new 46, 3) := by decide +kernel
theorem dX2_wind_91 : decode cX2_wind 91 = .ok (.dup, 1) := by decide +kernel
theorem dX2_wind_92 : decode cX2_wind 92 = .ok (.ldc 56, 2) := by decide +kernel
theorem dX2_wind_94 : decode cX2_wind 94 = .ok (.invokespecial 50, 3) := by decide +kernel
theorem dX2_wind_97 : decode cX2_wind 97 = .ok (.athrow, 1) := by decide +kernel
theorem dX2_wind_98 : decode cX2_wind 98 = .ok (.iload_n 2, 1) := by decide +kernel
theorem dX2_wind_99 : decode cX2_wind 99 = .ok (.ireturn, 1) := by decide +kernel
theorem dX2_hang_0 : decode cX2_hang 0 = .ok (.iload_n 1, 1) := by decide +kernel
theorem dX2_hang_1 : decode cX2_hang 1 = .ok (.invokestatic 42, 3) := by decide +kernel
theorem dX2_hang_4 : decode cX2_hang 4 = .ok (.iload_n 2, 1) := by decide +kernel
theorem dX2_hang_5 : decode cX2_hang 5 = .ok (.invokestatic 42, 3) := by decide +kernel
theorem dX2_hang_8 : decode cX2_hang 8 = .ok (.aload_n 0, 1) := by decide +kernel
theorem dX2_hang_9 : decode cX2_hang 9 = .ok (.getfield 11, 3) := by decide +kernel
theorem dX2_hang_12 : decode cX2_hang 12 = .ok (.iload_n 1, 1) := by decide +kernel
theorem dX2_hang_13 : decode cX2_hang 13 = .ok (.aload_n 0, 1) := by decide +kernel
theorem dX2_hang_14 : decode cX2_hang 14 = .ok (.getfield 11, 3) := by decide +kernel
theorem dX2_hang_17 : decode cX2_hang 17 = .ok (.iload_n 2, 1) := by decide +kernel
theorem dX2_hang_18 : decode cX2_hang 18 = .ok (.aaload, 1) := by decide +kernel
theorem dX2_hang_19 : decode cX2_hang 19 = .ok (.aastore, 1) := by decide +kernel
theorem dX2_hang_20 : decode cX2_hang 20 = .ok (.aload_n 0, 1) := by decide +kernel
theorem dX2_hang_21 : decode cX2_hang 21 = .ok (.iload_n 1, 1) := by decide +kernel
theorem dX2_hang_22 : decode cX2_hang 22 = .ok (.invokevirtual 58, 3) := by decide +kernel
theorem dX2_hang_25 : decode cX2_hang 25 = .ok (.ireturn, 1) := by decide +kernel
theorem dX2_twin_0 : decode cX2_twin 0 = .ok (.iload_n 1, 1) := by decide +kernel
theorem dX2_twin_1 : decode cX2_twin 1 = .ok (.invokestatic 42, 3) := by decide +kernel
theorem dX2_twin_4 : decode cX2_twin 4 = .ok (.iload_n 2, 1) := by decide +kernel
theorem dX2_twin_5 : decode cX2_twin 5 = .ok (.invokestatic 42, 3) := by decide +kernel
theorem dX2_twin_8 : decode cX2_twin 8 = .ok (.aload_n 0, 1) := by decide +kernel
theorem dX2_twin_9 : decode cX2_twin 9 = .ok (.getfield 11, 3) := by decide +kernel
theorem dX2_twin_12 : decode cX2_twin 12 = .ok (.iload_n 2, 1) := by decide +kernel
theorem dX2_twin_13 : decode cX2_twin 13 = .ok (.aaload, 1) := by decide +kernel
theorem dX2_twin_14 : decode cX2_twin 14 = .ok (.astore_n 3, 1) := by decide +kernel
theorem dX2_twin_15 : decode cX2_twin 15 = .ok (.aload_n 3, 1) := by decide +kernel
theorem dX2_twin_16 : decode cX2_twin 16 = .ok (.ifnull 11, 3) := by decide +kernel
theorem dX2_twin_19 : decode cX2_twin 19 = .ok (.aload_n 3, 1) := by decide +kernel
theorem dX2_twin_20 : decode cX2_twin 20 = .ok (.getfield 62, 3) := by decide +kernel
theorem dX2_twin_23 : decode cX2_twin 23 = .ok (.iconst 5, 1) := by decide +kernel
theorem dX2_twin_24 : decode cX2_twin 24 = .ok (.if_icmp .ne 13, 3) := by decide +kernel
theorem dX2_twin_27 : decode cX2_twin 27 = .ok (.new 65, 3) := by decide +kernel
theorem dX2_twin_30 : decode cX2_twin 30 = .ok (.dup, 1) := by decide +kernel
theorem dX2_twin_31 : decode cX2_twin 31 = .ok (.ldc 67, 2) := by decide +kernel
theorem dX2_twin_33 : decode cX2_twin 33 = .ok (.invokespecial 69, 3) := by decide +kernel
theorem dX2_twin_36 : decode cX2_twin 36 = .ok (.athrow, 1) := by decide +kernel
theorem dX2_twin_37 : decode cX2_twin 37 = .ok (.new 9, 3) := by decide +kernel
theorem dX2_twin_40 : decode cX2_twin 40 = .ok (.dup, 1) := by decide +kernel
theorem dX2_twin_41 : decode cX2_twin 41 = .ok (.aload_n 3, 1) := by decide +kernel
theorem dX2_twin_42 : decode cX2_twin 42 = .ok (.getfield 62, 3) := by decide +kernel
theorem dX2_twin_45 : decode cX2_twin 45 = .ok (.aload_n 3, 1) := by decide +kernel
theorem dX2_twin_46 : decode cX2_twin 46 = .ok (.getfield 70, 3) := by decide +kernel
theorem dX2_twin_49 : decode cX2_twin 49 = .ok (.arraylength, 1) := by decide +kernel
theorem dX2_twin_50 : decode cX2_twin 50 = .ok (.invokespecial 53, 3) := by decide +kernel
theorem dX2_twin_53 : decode cX2_twin 53 = .ok (.astore 4, 2) := by decide +kernel
theorem dX2_twin_55 : decode cX2_twin 55 = .ok (.aload_n 3, 1) := by decide +kernel
theorem dX2_twin_56 : decode cX2_twin 56 = .ok (.getfield 70, 3) := by decide +kernel
theorem dX2_twin_59 : decode cX2_twin 59 = .ok (.iconst 0, 1) := by decide +kernel
theorem dX2_twin_60 : decode cX2_twin 60 = .ok (.aload 4, 2) := by decide +kernel
theorem dX2_twin_62 : decode cX2_twin 62 = .ok (.getfield 70, 3) := by decide +kernel
theorem dX2_twin_65 : decode cX2_twin 65 = .ok (.iconst 0, 1) := by decide +kernel
theorem dX2_twin_66 : decode cX2_twin 66 = .ok (.aload 4, 2) := by decide +kernel
theorem dX2_twin_68 : decode cX2_twin 68 = .ok (.getfield 70, 3) := by decide +kernel
theorem dX2_twin_71 : decode cX2_twin 71 = .ok (.arraylength, 1) := by decide +kernel
theorem dX2_twin_72 : decode cX2_twin 72 = .ok (.invokestatic 74, 3) := by decide +kernel
theorem dX2_twin_75 : decode cX2_twin 75 = .ok (.aload_n 0, 1) := by decide +kernel
theorem dX2_twin_76 : decode cX2_twin 76 = .ok (.getfield 11, 3) := by decide +kernel
theorem dX2_twin_79 : decode cX2_twin 79 = .ok (.iload_n 1, 1) := by decide +kernel
theorem dX2_twin_80 : decode cX2_twin 80 = .ok (.aload 4, 2) := by decide +kernel
theorem dX2_twin_82 : decode cX2_twin 82 = .ok (.aastore, 1) := by decide +kernel
theorem dX2_twin_83 : decode cX2_twin 83 = .ok (.aload 4, 2) := by decide +kernel
theorem dX2_twin_85 : decode cX2_twin 85 = .ok (.getfield 62, 3) := by decide +kernel
theorem dX2_twin_88 : decode cX2_twin 88 = .ok (.ireturn, 1) := by decide +kernel
theorem dX2_mark_0 : decode cX2_mark 0 = .ok (.iload_n 1, 1) := by decide +kernel
theorem dX2_mark_1 : decode cX2_mark 1 = .ok (.invokestatic 42, 3) := by decide +kernel
theorem dX2_mark_4 : decode cX2_mark 4 = .ok (.aload_n 0, 1) := by decide +kernel
theorem dX2_mark_5 : decode cX2_mark 5 = .ok (.getfield 11, 3) := by decide +kernel
theorem dX2_mark_8 : decode cX2_mark 8 = .ok (.iload_n 1, 1) := by decide +kernel
theorem dX2_mark_9 : decode cX2_mark 9 = .ok (.aaload, 1) := by decide +kernel
theorem dX2_mark_10 : decode cX2_mark 10 = .ok (.astore 5, 2) := by decide +kernel
theorem dX2_mark_12 : decode cX2_mark 12 = .ok (.aload 5, 2) := by decide +kernel
theorem dX2_mark_14 : decode cX2_mark 14 = .ok (.ifnull 11, 3) := by decide +kernel
theorem dX2_mark_17 : decode cX2_mark 17 = .ok (.aload 5, 2) := by decide +kernel
theorem dX2_mark_19 : decode cX2_mark 19 = .ok (.invokevirtual 80, 3) := by decide +kernel
theorem dX2_mark_22 : decode cX2_mark 22 = .ok (.ifCond .ne 13, 3) := by decide +kernel
theorem dX2_mark_25 : decode cX2_mark 25 = .ok (.new 65, 3) := by decide +kernel
theorem dX2_mark_28 : decode cX2_mark 28 = .ok (.dup, 1) := by decide +kernel
theorem dX2_mark_29 : decode cX2_mark 29 = .ok (.ldc 84, 2) := by decide +kernel
theorem dX2_mark_31 : decode cX2_mark 31 = .ok (.invokespecial 69, 3) := by decide +kernel
theorem dX2_mark_34 : decode cX2_mark 34 = .ok (.athrow, 1) := by decide +kernel
theorem dX2_mark_35 : decode cX2_mark 35 = .ok (.aload 5, 2) := by decide +kernel
theorem dX2_mark_37 : decode cX2_mark 37 = .ok (.iload_n 2, 1) := by decide +kernel
theorem dX2_mark_38 : decode cX2_mark 38 = .ok (.invokestatic 86, 3) := by decide +kernel
theorem dX2_mark_41 : decode cX2_mark 41 = .ok (.aload 5, 2) := by decide +kernel
theorem dX2_mark_43 : decode cX2_mark 43 = .ok (.getfield 70, 3) := by decide +kernel
theorem dX2_mark_46 : decode cX2_mark 46 = .ok (.iload_n 2, 1) := by decide +kernel
theorem dX2_mark_47 : decode cX2_mark 47 = .ok (.aload 5, 2) := by decide +kernel
theorem dX2_mark_49 : decode cX2_mark 49 = .ok (.getfield 62, 3) := by decide +kernel
theorem dX2_mark_52 : decode cX2_mark 52 = .ok (.iconst 1, 1) := by decide +kernel
theorem dX2_mark_53 : decode cX2_mark 53 = .ok (.if_icmp .ne 9, 3) := by decide +kernel
theorem dX2_mark_56 : decode cX2_mark 56 = .ok (.lload_n 3, 1) := by decide +kernel
theorem dX2_mark_57 : decode cX2_mark 57 = .ok (.l2i, 1) := by decide +kernel
theorem dX2_mark_58 : decode cX2_mark 58 = .ok (.i2l, 1) := by decide +kernel
theorem dX2_mark_59 : decode cX2_mark 59 = .ok (.goto 4, 3) := by decide +kernel
theorem dX2_mark_62 : decode cX2_mark 62 = .ok (.lload_n 3, 1) := by decide +kernel
theorem dX2_mark_63 : decode cX2_mark 63 = .ok (.lastore, 1) := by decide +kernel
theorem dX2_mark_64 : decode cX2_mark 64 = .ok (.return_, 1) := by decide +kernel
theorem dX2_paste_0 : decode cX2_paste 0 = .ok (.iload_n 1, 1) := by decide +kernel
theorem dX2_paste_1 : decode cX2_paste 1 = .ok (.invokestatic 42, 3) := by decide +kernel
theorem dX2_paste_4 : decode cX2_paste 4 = .ok (.iload_n 3, 1) := by decide +kernel
theorem dX2_paste_5 : decode cX2_paste 5 = .ok (.ifCond .lt 10, 3) := by decide +kernel
theorem dX2_paste_8 : decode cX2_paste 8 = .ok (.iload_n 3, 1) := by decide +kernel
theorem dX2_paste_9 : decode cX2_paste 9 = .ok (.sipush 1000, 3) := by decide +kernel
theorem dX2_paste_12 : decode cX2_paste 12 = .ok (.if_icmp .lt 13, 3) := by decide +kernel
theorem dX2_paste_15 : decode cX2_paste 15 = .ok (.new 46, 3) := by decide +kernel
theorem dX2_paste_18 : decode cX2_paste 18 = .ok (.dup, 1) := by decide +kernel
theorem dX2_paste_19 : decode cX2_paste 19 = .ok (.ldc 90, 2) := by decide +kernel
theorem dX2_paste_21 : decode cX2_paste 21 = .ok (.invokespecial 50, 3) := by decide +kernel
theorem dX2_paste_24 : decode cX2_paste 24 = .ok (.athrow, 1) := by decide +kernel
theorem dX2_paste_25 : decode cX2_paste 25 = .ok (.aload_n 0, 1) := by decide +kernel
theorem dX2_paste_26 : decode cX2_paste 26 = .ok (.getfield 11, 3) := by decide +kernel
theorem dX2_paste_29 : decode cX2_paste 29 = .ok (.iload_n 1, 1) := by decide +kernel
theorem dX2_paste_30 : decode cX2_paste 30 = .ok (.aaload, 1) := by decide +kernel
theorem dX2_paste_31 : decode cX2_paste 31 = .ok (.astore 5, 2) := by decide +kernel
theorem dX2_paste_33 : decode cX2_paste 33 = .ok (.aload 5, 2) := by decide +kernel
theorem dX2_paste_35 : decode cX2_paste 35 = .ok (.ifnull 11, 3) := by decide +kernel
theorem dX2_paste_38 : decode cX2_paste 38 = .ok (.aload 5, 2) := by decide +kernel
theorem dX2_paste_40 : decode cX2_paste 40 = .ok (.invokevirtual 92, 3) := by decide +kernel
theorem dX2_paste_43 : decode cX2_paste 43 = .ok (.ifCond .ne 13, 3) := by decide +kernel
theorem dX2_paste_46 : decode cX2_paste 46 = .ok (.new 65, 3) := by decide +kernel
theorem dX2_paste_49 : decode cX2_paste 49 = .ok (.dup, 1) := by decide +kernel
theorem dX2_paste_50 : decode cX2_paste 50 = .ok (.ldc 95, 2) := by decide +kernel
theorem dX2_paste_52 : decode cX2_paste 52 = .ok (.invokespecial 69, 3) := by decide +kernel
theorem dX2_paste_55 : decode cX2_paste 55 = .ok (.athrow, 1) := by decide +kernel
theorem dX2_paste_56 : decode cX2_paste 56 = .ok (.aload 5, 2) := by decide +kernel
theorem dX2_paste_58 : decode cX2_paste 58 = .ok (.iload_n 2, 1) := by decide +kernel
theorem dX2_paste_59 : decode cX2_paste 59 = .ok (.invokestatic 86, 3) := by decide +kernel
theorem dX2_paste_62 : decode cX2_paste 62 = .ok (.iload 4, 2) := by decide +kernel
theorem dX2_paste_64 : decode cX2_paste 64 = .ok (.ifCond .eq 12, 3) := by decide +kernel
theorem dX2_paste_67 : decode cX2_paste 67 = .ok (.sipush 1000, 3) := by decide +kernel
theorem dX2_paste_70 : decode cX2_paste 70 = .ok (.iload_n 3, 1) := by decide +kernel
theorem dX2_paste_71 : decode cX2_paste 71 = .ok (.iadd, 1) := by decide +kernel
theorem dX2_paste_72 : decode cX2_paste 72 = .ok (.i2l, 1) := by decide +kernel
theorem dX2_paste_73 : decode cX2_paste 73 = .ok (.goto 5, 3) := by decide +kernel
theorem dX2_paste_76 : decode cX2_paste 76 = .ok (.iload_n 3, 1) := by decide +kernel
theorem dX2_paste_77 : decode cX2_paste 77 = .ok (.i2l, 1) := by decide +kernel
theorem dX2_paste_78 : decode cX2_paste 78 = .ok (.lstore 6, 2) := by decide +kernel
theorem dX2_paste_80 : decode cX2_paste 80 = .ok (.aload 5, 2) := by decide +kernel
theorem dX2_paste_82 : decode cX2_paste 82 = .ok (.lload 6, 2) := by decide +kernel
theorem dX2_paste_84 : decode cX2_paste 84 = .ok (.invokevirtual 97, 3) := by decide +kernel
theorem dX2_paste_87 : decode cX2_paste 87 = .ok (.ifCond .ne 5, 3) := by decide +kernel
theorem dX2_paste_90 : decode cX2_paste 90 = .ok (.iconst 0, 1) := by decide +kernel
theorem dX2_paste_91 : decode cX2_paste 91 = .ok (.ireturn, 1) := by decide +kernel
theorem dX2_paste_92 : decode cX2_paste 92 = .ok (.aload 5, 2) := by decide +kernel
theorem dX2_paste_94 : decode cX2_paste 94 = .ok (.getfield 70, 3) := by decide +kernel
theorem dX2_paste_97 : decode cX2_paste 97 = .ok (.iload_n 2, 1) := by decide +kernel
theorem dX2_paste_98 : decode cX2_paste 98 = .ok (.lload 6, 2) := by decide +kernel
theorem dX2_paste_100 : decode cX2_paste 100 = .ok (.lastore, 1) := by decide +kernel
theorem dX2_paste_101 : decode cX2_paste 101 = .ok (.iconst 1, 1) := by decide +kernel
theorem dX2_paste_102 : decode cX2_paste 102 = .ok (.ireturn, 1) := by decide +kernel
theorem dX2_pull_0 : decode cX2_pull 0 = .ok (.iload_n 1, 1) := by decide +kernel
theorem dX2_pull_1 : decode cX2_pull 1 = .ok (.invokestatic 42, 3) := by decide +kernel
theorem dX2_pull_4 : decode cX2_pull 4 = .ok (.aload_n 0, 1) := by decide +kernel
theorem dX2_pull_5 : decode cX2_pull 5 = .ok (.getfield 11, 3) := by decide +kernel
theorem dX2_pull_8 : decode cX2_pull 8 = .ok (.iload_n 1, 1) := by decide +kernel
theorem dX2_pull_9 : decode cX2_pull 9 = .ok (.aaload, 1) := by decide +kernel
theorem dX2_pull_10 : decode cX2_pull 10 = .ok (.astore_n 3, 1) := by decide +kernel
theorem dX2_pull_11 : decode cX2_pull 11 = .ok (.aload_n 3, 1) := by decide +kernel
theorem dX2_pull_12 : decode cX2_pull 12 = .ok (.ifnull 10, 3) := by decide +kernel
theorem dX2_pull_15 : decode cX2_pull 15 = .ok (.aload_n 3, 1) := by decide +kernel
theorem dX2_pull_16 : decode cX2_pull 16 = .ok (.invokevirtual 92, 3) := by decide +kernel
theorem dX2_pull_19 : decode cX2_pull 19 = .ok (.ifCond .ne 13, 3) := by decide +kernel
theorem dX2_pull_22 : decode cX2_pull 22 = .ok (.new 65, 3) := by decide +kernel
theorem dX2_pull_25 : decode cX2_pull 25 = .ok (.dup, 1) := by decide +kernel
theorem dX2_pull_26 : decode cX2_pull 26 = .ok (.ldc 95, 2) := by decide +kernel
theorem dX2_pull_28 : decode cX2_pull 28 = .ok (.invokespecial 69, 3) := by decide +kernel
theorem dX2_pull_31 : decode cX2_pull 31 = .ok (.athrow, 1) := by decide +kernel
theorem dX2_pull_32 : decode cX2_pull 32 = .ok (.aload_n 3, 1) := by decide +kernel
theorem dX2_pull_33 : decode cX2_pull 33 = .ok (.iload_n 2, 1) := by decide +kernel
theorem dX2_pull_34 : decode cX2_pull 34 = .ok (.invokestatic 86, 3) := by decide +kernel
theorem dX2_pull_37 : decode cX2_pull 37 = .ok (.aload_n 3, 1) := by decide +kernel
theorem dX2_pull_38 : decode cX2_pull 38 = .ok (.getfield 70, 3) := by decide +kernel
theorem dX2_pull_41 : decode cX2_pull 41 = .ok (.iload_n 2, 1) := by decide +kernel
theorem dX2_pull_42 : decode cX2_pull 42 = .ok (.laload, 1) := by decide +kernel
theorem dX2_pull_43 : decode cX2_pull 43 = .ok (.ldc2_w 101, 3) := by decide +kernel
theorem dX2_pull_46 : decode cX2_pull 46 = .ok (.lcmp, 1) := by decide +kernel
theorem dX2_pull_47 : decode cX2_pull 47 = .ok (.ifCond .eq 7, 3) := by decide +kernel
theorem dX2_pull_50 : decode cX2_pull 50 = .ok (.iconst 1, 1) := by decide +kernel
theorem dX2_pull_51 : decode cX2_pull 51 = .ok (.goto 4, 3) := by decide +kernel
theorem dX2_pull_54 : decode cX2_pull 54 = .ok (.iconst 0, 1) := by decide +kernel
theorem dX2_pull_55 : decode cX2_pull 55 = .ok (.istore 4, 2) := by decide +kernel
theorem dX2_pull_57 : decode cX2_pull 57 = .ok (.aload_n 3, 1) := by decide +kernel
theorem dX2_pull_58 : decode cX2_pull 58 = .ok (.getfield 70, 3) := by decide +kernel
theorem dX2_pull_61 : decode cX2_pull 61 = .ok (.iload_n 2, 1) := by decide +kernel
theorem dX2_pull_62 : decode cX2_pull 62 = .ok (.ldc2_w 101, 3) := by decide +kernel
theorem dX2_pull_65 : decode cX2_pull 65 = .ok (.lastore, 1) := by decide +kernel
theorem dX2_pull_66 : decode cX2_pull 66 = .ok (.iload 4, 2) := by decide +kernel
theorem dX2_pull_68 : decode cX2_pull 68 = .ok (.ireturn, 1) := by decide +kernel
theorem dX2_splice_0 : decode cX2_splice 0 = .ok (.iload_n 1, 1) := by decide +kernel
theorem dX2_splice_1 : decode cX2_splice 1 = .ok (.invokestatic 42, 3) := by decide +kernel
theorem dX2_splice_4 : decode cX2_splice 4 = .ok (.iload_n 3, 1) := by decide +kernel
theorem dX2_splice_5 : decode cX2_splice 5 = .ok (.invokestatic 42, 3) := by decide +kernel
theorem dX2_splice_8 : decode cX2_splice 8 = .ok (.aload_n 0, 1) := by decide +kernel
theorem dX2_splice_9 : decode cX2_splice 9 = .ok (.invokevirtual 103, 3) := by decide +kernel
theorem dX2_splice_12 : decode cX2_splice 12 = .ok (.aload_n 0, 1) := by decide +kernel
theorem dX2_splice_13 : decode cX2_splice 13 = .ok (.getfield 18, 3) := by decide +kernel
theorem dX2_splice_16 : decode cX2_splice 16 = .ok (.aload_n 0, 1) := by decide +kernel
theorem dX2_splice_17 : decode cX2_splice 17 = .ok (.getfield 11, 3) := by decide +kernel
theorem dX2_splice_20 : decode cX2_splice 20 = .ok (.iload_n 1, 1) := by decide +kernel
theorem dX2_splice_21 : decode cX2_splice 21 = .ok (.aaload, 1) := by decide +kernel
theorem dX2_splice_22 : decode cX2_splice 22 = .ok (.iload_n 2, 1) := by decide +kernel
theorem dX2_splice_23 : decode cX2_splice 23 = .ok (.aload_n 0, 1) := by decide +kernel
theorem dX2_splice_24 : decode cX2_splice 24 = .ok (.getfield 11, 3) := by decide +kernel
theorem dX2_splice_27 : decode cX2_splice 27 = .ok (.iload_n 3, 1) := by decide +kernel
theorem dX2_splice_28 : decode cX2_splice 28 = .ok (.aaload, 1) := by decide +kernel
theorem dX2_splice_29 : decode cX2_splice 29 = .ok (.iload 4, 2) := by decide +kernel
theorem dX2_splice_31 : decode cX2_splice 31 = .ok (.iload 5, 2) := by decide +kernel
theorem dX2_splice_33 : decode cX2_splice 33 = .ok (.invokevirtual 106, 3) := by decide +kernel
theorem dX2_splice_36 : decode cX2_splice 36 = .ok (.ireturn, 1) := by decide +kernel
theorem dX2_step_0 : decode cX2_step 0 = .ok (.iload_n 1, 1) := by decide +kernel
theorem dX2_step_1 : decode cX2_step 1 = .ok (.invokestatic 42, 3) := by decide +kernel
theorem dX2_step_4 : decode cX2_step 4 = .ok (.iload_n 3, 1) := by decide +kernel
theorem dX2_step_5 : decode cX2_step 5 = .ok (.invokestatic 42, 3) := by decide +kernel
theorem dX2_step_8 : decode cX2_step 8 = .ok (.aload_n 0, 1) := by decide +kernel
theorem dX2_step_9 : decode cX2_step 9 = .ok (.getfield 38, 3) := by decide +kernel
theorem dX2_step_12 : decode cX2_step 12 = .ok (.bipush 24, 2) := by decide +kernel
theorem dX2_step_14 : decode cX2_step 14 = .ok (.if_icmp .lt 13, 3) := by decide +kernel
theorem dX2_step_17 : decode cX2_step 17 = .ok (.new 65, 3) := by decide +kernel
theorem dX2_step_20 : decode cX2_step 20 = .ok (.dup, 1) := by decide +kernel
theorem dX2_step_21 : decode cX2_step 21 = .ok (.ldc 110, 2) := by decide +kernel
theorem dX2_step_23 : decode cX2_step 23 = .ok (.invokespecial 69, 3) := by decide +kernel
theorem dX2_step_26 : decode cX2_step 26 = .ok (.athrow, 1) := by decide +kernel
theorem dX2_step_27 : decode cX2_step 27 = .ok (.aload_n 0, 1) := by decide +kernel
theorem dX2_step_28 : decode cX2_step 28 = .ok (.getfield 22, 3) := by decide +kernel
theorem dX2_step_31 : decode cX2_step 31 = .ok (.aload_n 0, 1) := by decide +kernel
theorem dX2_step_32 : decode cX2_step 32 = .ok (.getfield 38, 3) := by decide +kernel
theorem dX2_step_35 : decode cX2_step 35 = .ok (.iload_n 1, 1) := by decide +kernel
theorem dX2_step_36 : decode cX2_step 36 = .ok (.iastore, 1) := by decide +kernel
theorem dX2_step_37 : decode cX2_step 37 = .ok (.aload_n 0, 1) := by decide +kernel
theorem dX2_step_38 : decode cX2_step 38 = .ok (.getfield 26, 3) := by decide +kernel
theorem dX2_step_41 : decode cX2_step 41 = .ok (.aload_n 0, 1) := by decide +kernel
theorem dX2_step_42 : decode cX2_step 42 = .ok (.getfield 38, 3) := by decide +kernel
theorem dX2_step_45 : decode cX2_step 45 = .ok (.iload_n 2, 1) := by decide +kernel
theorem dX2_step_46 : decode cX2_step 46 = .ok (.iastore, 1) := by decide +kernel
theorem dX2_step_47 : decode cX2_step 47 = .ok (.aload_n 0, 1) := by decide +kernel
theorem dX2_step_48 : decode cX2_step 48 = .ok (.getfield 29, 3) := by decide +kernel
theorem dX2_step_51 : decode cX2_step 51 = .ok (.aload_n 0, 1) := by decide +kernel
theorem dX2_step_52 : decode cX2_step 52 = .ok (.getfield 38, 3) := by decide +kernel
theorem dX2_step_55 : decode cX2_step 55 = .ok (.iload_n 3, 1) := by decide +kernel
theorem dX2_step_56 : decode cX2_step 56 = .ok (.iastore, 1) := by decide +kernel
theorem dX2_step_57 : decode cX2_step 57 = .ok (.aload_n 0, 1) := by decide +kernel
theorem dX2_step_58 : decode cX2_step 58 = .ok (.getfield 32, 3) := by decide +kernel
theorem dX2_step_61 : decode cX2_step 61 = .ok (.aload_n 0, 1) := by decide +kernel
theorem dX2_step_62 : decode cX2_step 62 = .ok (.getfield 38, 3) := by decide +kernel
theorem dX2_step_65 : decode cX2_step 65 = .ok (.iload 4, 2) := by decide +kernel
theorem dX2_step_67 : decode cX2_step 67 = .ok (.iastore, 1) := by decide +kernel
theorem dX2_step_68 : decode cX2_step 68 = .ok (.aload_n 0, 1) := by decide +kernel
theorem dX2_step_69 : decode cX2_step 69 = .ok (.getfield 35, 3) := by decide +kernel
theorem dX2_step_72 : decode cX2_step 72 = .ok (.aload_n 0, 1) := by decide +kernel
theorem dX2_step_73 : decode cX2_step 73 = .ok (.getfield 38, 3) := by decide +kernel
theorem dX2_step_76 : decode cX2_step 76 = .ok (.iload 5, 2) := by decide +kernel
theorem dX2_step_78 : decode cX2_step 78 = .ok (.iastore, 1) := by decide +kernel
theorem dX2_step_79 : decode cX2_step 79 = .ok (.aload_n 0, 1) := by decide +kernel
theorem dX2_step_80 : decode cX2_step 80 = .ok (.dup, 1) := by decide +kernel
theorem dX2_step_81 : decode cX2_step 81 = .ok (.getfield 38, 3) := by decide +kernel
theorem dX2_step_84 : decode cX2_step 84 = .ok (.iconst 1, 1) := by decide +kernel
theorem dX2_step_85 : decode cX2_step 85 = .ok (.iadd, 1) := by decide +kernel
theorem dX2_step_86 : decode cX2_step 86 = .ok (.putfield 38, 3) := by decide +kernel
theorem dX2_step_89 : decode cX2_step 89 = .ok (.aload_n 0, 1) := by decide +kernel
theorem dX2_step_90 : decode cX2_step 90 = .ok (.getfield 38, 3) := by decide +kernel
theorem dX2_step_93 : decode cX2_step 93 = .ok (.ireturn, 1) := by decide +kernel
theorem dX2_play_0 : decode cX2_play 0 = .ok (.aload_n 0, 1) := by decide +kernel
theorem dX2_play_1 : decode cX2_play 1 = .ok (.invokevirtual 103, 3) := by decide +kernel
theorem dX2_play_4 : decode cX2_play 4 = .ok (.iconst 0, 1) := by decide +kernel
theorem dX2_play_5 : decode cX2_play 5 = .ok (.istore_n 2, 1) := by decide +kernel
theorem dX2_play_6 : decode cX2_play 6 = .ok (.iload_n 2, 1) := by decide +kernel
theorem dX2_play_7 : decode cX2_play 7 = .ok (.aload_n 0, 1) := by decide +kernel
theorem dX2_play_8 : decode cX2_play 8 = .ok (.getfield 38, 3) := by decide +kernel
theorem dX2_play_11 : decode cX2_play 11 = .ok (.if_icmp .ge 40, 3) := by decide +kernel
theorem dX2_play_14 : decode cX2_play 14 = .ok (.iload_n 1, 1) := by decide +kernel
theorem dX2_play_15 : decode cX2_play 15 = .ok (.ifCond .eq 18, 3) := by decide +kernel
theorem dX2_play_18 : decode cX2_play 18 = .ok (.aload_n 0, 1) := by decide +kernel
theorem dX2_play_19 : decode cX2_play 19 = .ok (.aload_n 0, 1) := by decide +kernel
theorem dX2_play_20 : decode cX2_play 20 = .ok (.getfield 38, 3) := by decide +kernel
theorem dX2_play_23 : decode cX2_play 23 = .ok (.iconst 1, 1) := by decide +kernel
theorem dX2_play_24 : decode cX2_play 24 = .ok (.isub, 1) := by decide +kernel
theorem dX2_play_25 : decode cX2_play 25 = .ok (.iload_n 2, 1) := by decide +kernel
theorem dX2_play_26 : decode cX2_play 26 = .ok (.isub, 1) := by decide +kernel
theorem dX2_play_27 : decode cX2_play 27 = .ok (.invokevirtual 112, 3) := by decide +kernel
theorem dX2_play_30 : decode cX2_play 30 = .ok (.goto 8, 3) := by decide +kernel
theorem dX2_play_33 : decode cX2_play 33 = .ok (.aload_n 0, 1) := by decide +kernel
theorem dX2_play_34 : decode cX2_play 34 = .ok (.iload_n 2, 1) := by decide +kernel
theorem dX2_play_35 : decode cX2_play 35 = .ok (.invokevirtual 115, 3) := by decide +kernel
theorem dX2_play_38 : decode cX2_play 38 = .ok (.istore_n 3, 1) := by decide +kernel
theorem dX2_play_39 : decode cX2_play 39 = .ok (.iload_n 3, 1) := by decide +kernel
theorem dX2_play_40 : decode cX2_play 40 = .ok (.ifCond .ge 5, 3) := by decide +kernel
theorem dX2_play_43 : decode cX2_play 43 = .ok (.iload_n 2, 1) := by decide +kernel
theorem dX2_play_44 : decode cX2_play 44 = .ok (.ireturn, 1) := by decide +kernel
theorem dX2_play_45 : decode cX2_play 45 = .ok (.iinc 2 1, 3) := by decide +kernel
theorem dX2_play_48 : decode cX2_play 48 = .ok (.goto (-42), 3) := by decide +kernel
theorem dX2_play_51 : decode cX2_play 51 = .ok (.aload_n 0, 1) := by decide +kernel
theorem dX2_play_52 : decode cX2_play 52 = .ok (.getfield 38, 3) := by decide +kernel
theorem dX2_play_55 : decode cX2_play 55 = .ok (.ireturn, 1) := by decide +kernel
theorem dX2_sweep_0 : decode cX2_sweep 0 = .ok (.aload_n 0, 1) := by decide +kernel
theorem dX2_sweep_1 : decode cX2_sweep 1 = .ok (.getfield 38, 3) := by decide +kernel
theorem dX2_sweep_4 : decode cX2_sweep 4 = .ok (.istore_n 1, 1) := by decide +kernel
theorem dX2_sweep_5 : decode cX2_sweep 5 = .ok (.aload_n 0, 1) := by decide +kernel
theorem dX2_sweep_6 : decode cX2_sweep 6 = .ok (.iconst 0, 1) := by decide +kernel
theorem dX2_sweep_7 : decode cX2_sweep 7 = .ok (.putfield 38, 3) := by decide +kernel
theorem dX2_sweep_10 : decode cX2_sweep 10 = .ok (.iload_n 1, 1) := by decide +kernel
theorem dX2_sweep_11 : decode cX2_sweep 11 = .ok (.ireturn, 1) := by decide +kernel
theorem dX2_grind_0 : decode cX2_grind 0 = .ok (.aload_n 0, 1) := by decide +kernel
theorem dX2_grind_1 : decode cX2_grind 1 = .ok (.getfield 18, 3) := by decide +kernel
theorem dX2_grind_4 : decode cX2_grind 4 = .ok (.invokevirtual 118, 3) := by decide +kernel
theorem dX2_grind_7 : decode cX2_grind 7 = .ok (.ifCond .ne 13, 3) := by decide +kernel
theorem dX2_grind_10 : decode cX2_grind 10 = .ok (.new 65, 3) := by decide +kernel
theorem dX2_grind_13 : decode cX2_grind 13 = .ok (.dup, 1) := by decide +kernel
theorem dX2_grind_14 : decode cX2_grind 14 = .ok (.ldc 121, 2) := by decide +kernel
theorem dX2_grind_16 : decode cX2_grind 16 = .ok (.invokespecial 69, 3) := by decide +kernel
theorem dX2_grind_19 : decode cX2_grind 19 = .ok (.athrow, 1) := by decide +kernel
theorem dX2_grind_20 : decode cX2_grind 20 = .ok (.aload_n 0, 1) := by decide +kernel
theorem dX2_grind_21 : decode cX2_grind 21 = .ok (.getfield 18, 3) := by decide +kernel
theorem dX2_grind_24 : decode cX2_grind 24 = .ok (.invokevirtual 123, 3) := by decide +kernel
theorem dX2_grind_27 : decode cX2_grind 27 = .ok (.aload_n 0, 1) := by decide +kernel
theorem dX2_grind_28 : decode cX2_grind 28 = .ok (.getfield 18, 3) := by decide +kernel
theorem dX2_grind_31 : decode cX2_grind 31 = .ok (.getfield 126, 3) := by decide +kernel
theorem dX2_grind_34 : decode cX2_grind 34 = .ok (.ireturn, 1) := by decide +kernel
theorem dX2_frame_0 : decode cX2_frame 0 = .ok (.iload_n 1, 1) := by decide +kernel
theorem dX2_frame_1 : decode cX2_frame 1 = .ok (.invokestatic 42, 3) := by decide +kernel
theorem dX2_frame_4 : decode cX2_frame 4 = .ok (.aload_n 0, 1) := by decide +kernel
theorem dX2_frame_5 : decode cX2_frame 5 = .ok (.getfield 11, 3) := by decide +kernel
theorem dX2_frame_8 : decode cX2_frame 8 = .ok (.iload_n 1, 1) := by decide +kernel
theorem dX2_frame_9 : decode cX2_frame 9 = .ok (.aaload, 1) := by decide +kernel
theorem dX2_frame_10 : decode cX2_frame 10 = .ok (.astore_n 3, 1) := by decide +kernel
theorem dX2_frame_11 : decode cX2_frame 11 = .ok (.aload_n 3, 1) := by decide +kernel
theorem dX2_frame_12 : decode cX2_frame 12 = .ok (.ifnull 11, 3) := by decide +kernel
theorem dX2_frame_15 : decode cX2_frame 15 = .ok (.aload_n 3, 1) := by decide +kernel
theorem dX2_frame_16 : decode cX2_frame 16 = .ok (.getfield 62, 3) := by decide +kernel
theorem dX2_frame_19 : decode cX2_frame 19 = .ok (.iconst 5, 1) := by decide +kernel
theorem dX2_frame_20 : decode cX2_frame 20 = .ok (.if_icmp .ne 13, 3) := by decide +kernel
theorem dX2_frame_23 : decode cX2_frame 23 = .ok (.new 65, 3) := by decide +kernel
theorem dX2_frame_26 : decode cX2_frame 26 = .ok (.dup, 1) := by decide +kernel
theorem dX2_frame_27 : decode cX2_frame 27 = .ok (.ldc 129, 2) := by decide +kernel
theorem dX2_frame_29 : decode cX2_frame 29 = .ok (.invokespecial 69, 3) := by decide +kernel
theorem dX2_frame_32 : decode cX2_frame 32 = .ok (.athrow, 1) := by decide +kernel
theorem dX2_frame_33 : decode cX2_frame 33 = .ok (.aload_n 3, 1) := by decide +kernel
theorem dX2_frame_34 : decode cX2_frame 34 = .ok (.iload_n 2, 1) := by decide +kernel
theorem dX2_frame_35 : decode cX2_frame 35 = .ok (.invokestatic 86, 3) := by decide +kernel
theorem dX2_frame_38 : decode cX2_frame 38 = .ok (.aload_n 3, 1) := by decide +kernel
theorem dX2_frame_39 : decode cX2_frame 39 = .ok (.getfield 70, 3) := by decide +kernel
theorem dX2_frame_42 : decode cX2_frame 42 = .ok (.iload_n 2, 1) := by decide +kernel
theorem dX2_frame_43 : decode cX2_frame 43 = .ok (.laload, 1) := by decide +kernel
theorem dX2_frame_44 : decode cX2_frame 44 = .ok (.lreturn, 1) := by decide +kernel
theorem dX2_look_0 : decode cX2_look 0 = .ok (.iload_n 1, 1) := by decide +kernel
theorem dX2_look_1 : decode cX2_look 1 = .ok (.invokestatic 42, 3) := by decide +kernel
theorem dX2_look_4 : decode cX2_look 4 = .ok (.iload_n 2, 1) := by decide +kernel
theorem dX2_look_5 : decode cX2_look 5 = .ok (.tableswitch 50 0 2 #[27, 33, 39], 27) := by decide +kernel
theorem dX2_look_32 : decode cX2_look 32 = .ok (.aload_n 0, 1) := by decide +kernel
theorem dX2_look_33 : decode cX2_look 33 = .ok (.iload_n 1, 1) := by decide +kernel
theorem dX2_look_34 : decode cX2_look 34 = .ok (.invokevirtual 58, 3) := by decide +kernel
theorem dX2_look_37 : decode cX2_look 37 = .ok (.ireturn, 1) := by decide +kernel
theorem dX2_look_38 : decode cX2_look 38 = .ok (.aload_n 0, 1) := by decide +kernel
theorem dX2_look_39 : decode cX2_look 39 = .ok (.iload_n 1, 1) := by decide +kernel
theorem dX2_look_40 : decode cX2_look 40 = .ok (.invokevirtual 131, 3) := by decide +kernel
theorem dX2_look_43 : decode cX2_look 43 = .ok (.ireturn, 1) := by decide +kernel
theorem dX2_look_44 : decode cX2_look 44 = .ok (.aload_n 0, 1) := by decide +kernel
theorem dX2_look_45 : decode cX2_look 45 = .ok (.aload_n 0, 1) := by decide +kernel
theorem dX2_look_46 : decode cX2_look 46 = .ok (.getfield 11, 3) := by decide +kernel
theorem dX2_look_49 : decode cX2_look 49 = .ok (.iload_n 1, 1) := by decide +kernel
theorem dX2_look_50 : decode cX2_look 50 = .ok (.aaload, 1) := by decide +kernel
theorem dX2_look_51 : decode cX2_look 51 = .ok (.invokevirtual 134, 3) := by decide +kernel
theorem dX2_look_54 : decode cX2_look 54 = .ok (.ireturn, 1) := by decide +kernel
theorem dX2_look_55 : decode cX2_look 55 = .ok (.new 46, 3) := by decide +kernel
theorem dX2_look_58 : decode cX2_look 58 = .ok (.dup, 1) := by decide +kernel
theorem dX2_look_59 : decode cX2_look 59 = .ok (.ldc 138, 2) := by decide +kernel
theorem dX2_look_61 : decode cX2_look 61 = .ok (.invokespecial 50, 3) := by decide +kernel
theorem dX2_look_64 : decode cX2_look 64 = .ok (.athrow, 1) := by decide +kernel
theorem dX2_sum_0 : decode cX2_sum 0 = .ok (.iload_n 1, 1) := by decide +kernel
theorem dX2_sum_1 : decode cX2_sum 1 = .ok (.invokestatic 42, 3) := by decide +kernel
theorem dX2_sum_4 : decode cX2_sum 4 = .ok (.aload_n 0, 1) := by decide +kernel
theorem dX2_sum_5 : decode cX2_sum 5 = .ok (.getfield 11, 3) := by decide +kernel
theorem dX2_sum_8 : decode cX2_sum 8 = .ok (.iload_n 1, 1) := by decide +kernel
theorem dX2_sum_9 : decode cX2_sum 9 = .ok (.aaload, 1) := by decide +kernel
theorem dX2_sum_10 : decode cX2_sum 10 = .ok (.astore_n 2, 1) := by decide +kernel
theorem dX2_sum_11 : decode cX2_sum 11 = .ok (.ldc2_w 140, 3) := by decide +kernel
theorem dX2_sum_14 : decode cX2_sum 14 = .ok (.lstore_n 3, 1) := by decide +kernel
theorem dX2_sum_15 : decode cX2_sum 15 = .ok (.aload_n 2, 1) := by decide +kernel
theorem dX2_sum_16 : decode cX2_sum 16 = .ok (.ifnull 36, 3) := by decide +kernel
theorem dX2_sum_19 : decode cX2_sum 19 = .ok (.iconst 0, 1) := by decide +kernel
theorem dX2_sum_20 : decode cX2_sum 20 = .ok (.istore 5, 2) := by decide +kernel
theorem dX2_sum_22 : decode cX2_sum 22 = .ok (.iload 5, 2) := by decide +kernel
theorem dX2_sum_24 : decode cX2_sum 24 = .ok (.aload_n 2, 1) := by decide +kernel
theorem dX2_sum_25 : decode cX2_sum 25 = .ok (.getfield 70, 3) := by decide +kernel
theorem dX2_sum_28 : decode cX2_sum 28 = .ok (.arraylength, 1) := by decide +kernel
theorem dX2_sum_29 : decode cX2_sum 29 = .ok (.if_icmp .ge 23, 3) := by decide +kernel
theorem dX2_sum_32 : decode cX2_sum 32 = .ok (.ldc2_w 142, 3) := by decide +kernel
theorem dX2_sum_35 : decode cX2_sum 35 = .ok (.lload_n 3, 1) := by decide +kernel
theorem dX2_sum_36 : decode cX2_sum 36 = .ok (.lmul, 1) := by decide +kernel
theorem dX2_sum_37 : decode cX2_sum 37 = .ok (.aload_n 2, 1) := by decide +kernel
theorem dX2_sum_38 : decode cX2_sum 38 = .ok (.getfield 70, 3) := by decide +kernel
theorem dX2_sum_41 : decode cX2_sum 41 = .ok (.iload 5, 2) := by decide +kernel
theorem dX2_sum_43 : decode cX2_sum 43 = .ok (.laload, 1) := by decide +kernel
theorem dX2_sum_44 : decode cX2_sum 44 = .ok (.ladd, 1) := by decide +kernel
theorem dX2_sum_45 : decode cX2_sum 45 = .ok (.lstore_n 3, 1) := by decide +kernel
theorem dX2_sum_46 : decode cX2_sum 46 = .ok (.iinc 5 1, 3) := by decide +kernel
theorem dX2_sum_49 : decode cX2_sum 49 = .ok (.goto (-27), 3) := by decide +kernel
theorem dX2_sum_52 : decode cX2_sum 52 = .ok (.lload_n 3, 1) := by decide +kernel
theorem dX2_sum_53 : decode cX2_sum 53 = .ok (.lreturn, 1) := by decide +kernel
theorem dX2_count_0 : decode cX2_count 0 = .ok (.iload_n 1, 1) := by decide +kernel
theorem dX2_count_1 : decode cX2_count 1 = .ok (.tableswitch 108 0 7 #[47, 55, 63, 71, 79, 84, 92, 100], 47) := by decide +kernel
theorem dX2_count_48 : decode cX2_count 48 = .ok (.aload_n 0, 1) := by decide +kernel
theorem dX2_count_49 : decode cX2_count 49 = .ok (.getfield 18, 3) := by decide +kernel
theorem dX2_count_52 : decode cX2_count 52 = .ok (.getfield 144, 3) := by decide +kernel
theorem dX2_count_55 : decode cX2_count 55 = .ok (.ireturn, 1) := by decide +kernel
theorem dX2_count_56 : decode cX2_count 56 = .ok (.aload_n 0, 1) := by decide +kernel
theorem dX2_count_57 : decode cX2_count 57 = .ok (.getfield 18, 3) := by decide +kernel
theorem dX2_count_60 : decode cX2_count 60 = .ok (.getfield 147, 3) := by decide +kernel
theorem dX2_count_63 : decode cX2_count 63 = .ok (.ireturn, 1) := by decide +kernel
theorem dX2_count_64 : decode cX2_count 64 = .ok (.aload_n 0, 1) := by decide +kernel
theorem dX2_count_65 : decode cX2_count 65 = .ok (.getfield 18, 3) := by decide +kernel
theorem dX2_count_68 : decode cX2_count 68 = .ok (.getfield 150, 3) := by decide +kernel
theorem dX2_count_71 : decode cX2_count 71 = .ok (.ireturn, 1) := by decide +kernel
theorem dX2_count_72 : decode cX2_count 72 = .ok (.aload_n 0, 1) := by decide +kernel
theorem dX2_count_73 : decode cX2_count 73 = .ok (.getfield 18, 3) := by decide +kernel
theorem dX2_count_76 : decode cX2_count 76 = .ok (.getfield 153, 3) := by decide +kernel
theorem dX2_count_79 : decode cX2_count 79 = .ok (.ireturn, 1) := by decide +kernel
theorem dX2_count_80 : decode cX2_count 80 = .ok (.aload_n 0, 1) := by decide +kernel
theorem dX2_count_81 : decode cX2_count 81 = .ok (.getfield 38, 3) := by decide +kernel
theorem dX2_count_84 : decode cX2_count 84 = .ok (.ireturn, 1) := by decide +kernel
theorem dX2_count_85 : decode cX2_count 85 = .ok (.aload_n 0, 1) := by decide +kernel
theorem dX2_count_86 : decode cX2_count 86 = .ok (.getfield 18, 3) := by decide +kernel
theorem dX2_count_89 : decode cX2_count 89 = .ok (.getfield 156, 3) := by decide +kernel
theorem dX2_count_92 : decode cX2_count 92 = .ok (.ireturn, 1) := by decide +kernel
theorem dX2_count_93 : decode cX2_count 93 = .ok (.aload_n 0, 1) := by decide +kernel
theorem dX2_count_94 : decode cX2_count 94 = .ok (.getfield 18, 3) := by decide +kernel
theorem dX2_count_97 : decode cX2_count 97 = .ok (.getfield 159, 3) := by decide +kernel
theorem dX2_count_100 : decode cX2_count 100 = .ok (.ireturn, 1) := by decide +kernel
theorem dX2_count_101 : decode cX2_count 101 = .ok (.aload_n 0, 1) := by decide +kernel
theorem dX2_count_102 : decode cX2_count 102 = .ok (.getfield 18, 3) := by decide +kernel
theorem dX2_count_105 : decode cX2_count 105 = .ok (.getfield 126, 3) := by decide +kernel
theorem dX2_count_108 : decode cX2_count 108 = .ok (.ireturn, 1) := by decide +kernel
theorem dX2_count_109 : decode cX2_count 109 = .ok (.new 46, 3) := by decide +kernel
theorem dX2_count_112 : decode cX2_count 112 = .ok (.dup, 1) := by decide +kernel
theorem dX2_count_113 : decode cX2_count 113 = .ok (.ldc 138, 2) := by decide +kernel
theorem dX2_count_115 : decode cX2_count 115 = .ok (.invokespecial 50, 3) := by decide +kernel
theorem dX2_count_118 : decode cX2_count 118 = .ok (.athrow, 1) := by decide +kernel
theorem dX2_requireHook_0 : decode cX2_requireHook 0 = .ok (.iload_n 0, 1) := by decide +kernel
theorem dX2_requireHook_1 : decode cX2_requireHook 1 = .ok (.ifCond .lt 9, 3) := by decide +kernel
theorem dX2_requireHook_4 : decode cX2_requireHook 4 = .ok (.iload_n 0, 1) := by decide +kernel
theorem dX2_requireHook_5 : decode cX2_requireHook 5 = .ok (.bipush 6, 2) := by decide +kernel
theorem dX2_requireHook_7 : decode cX2_requireHook 7 = .ok (.if_icmp .lt 13, 3) := by decide +kernel
theorem dX2_requireHook_10 : decode cX2_requireHook 10 = .ok (.new 46, 3) := by decide +kernel
theorem dX2_requireHook_13 : decode cX2_requireHook 13 = .ok (.dup, 1) := by decide +kernel
theorem dX2_requireHook_14 : decode cX2_requireHook 14 = .ok (.ldc 162, 2) := by decide +kernel
theorem dX2_requireHook_16 : decode cX2_requireHook 16 = .ok (.invokespecial 50, 3) := by decide +kernel
theorem dX2_requireHook_19 : decode cX2_requireHook 19 = .ok (.athrow, 1) := by decide +kernel
theorem dX2_requireHook_20 : decode cX2_requireHook 20 = .ok (.return_, 1) := by decide +kernel
theorem dX2_requireFrame_0 : decode cX2_requireFrame 0 = .ok (.iload_n 1, 1) := by decide +kernel
theorem dX2_requireFrame_1 : decode cX2_requireFrame 1 = .ok (.ifCond .lt 12, 3) := by decide +kernel
theorem dX2_requireFrame_4 : decode cX2_requireFrame 4 = .ok (.iload_n 1, 1) := by decide +kernel
theorem dX2_requireFrame_5 : decode cX2_requireFrame 5 = .ok (.aload_n 0, 1) := by decide +kernel
theorem dX2_requireFrame_6 : decode cX2_requireFrame 6 = .ok (.getfield 70, 3) := by decide +kernel
theorem dX2_requireFrame_9 : decode cX2_requireFrame 9 = .ok (.arraylength, 1) := by decide +kernel
theorem dX2_requireFrame_10 : decode cX2_requireFrame 10 = .ok (.if_icmp .lt 13, 3) := by decide +kernel
theorem dX2_requireFrame_13 : decode cX2_requireFrame 13 = .ok (.new 164, 3) := by decide +kernel
theorem dX2_requireFrame_16 : decode cX2_requireFrame 16 = .ok (.dup, 1) := by decide +kernel
theorem dX2_requireFrame_17 : decode cX2_requireFrame 17 = .ok (.ldc 166, 2) := by decide +kernel
theorem dX2_requireFrame_19 : decode cX2_requireFrame 19 = .ok (.invokespecial 168, 3) := by decide +kernel
theorem dX2_requireFrame_22 : decode cX2_requireFrame 22 = .ok (.athrow, 1) := by decide +kernel
theorem dX2_requireFrame_23 : decode cX2_requireFrame 23 = .ok (.return_, 1) := by decide +kernel
theorem dX2_requireSharpKnife_0 : decode cX2_requireSharpKnife 0 = .ok (.aload_n 0, 1) := by decide +kernel
theorem dX2_requireSharpKnife_1 : decode cX2_requireSharpKnife 1 = .ok (.getfield 18, 3) := by decide +kernel
theorem dX2_requireSharpKnife_4 : decode cX2_requireSharpKnife 4 = .ok (.invokevirtual 118, 3) := by decide +kernel
theorem dX2_requireSharpKnife_7 : decode cX2_requireSharpKnife 7 = .ok (.ifCond .eq 13, 3) := by decide +kernel
theorem dX2_requireSharpKnife_10 : decode cX2_requireSharpKnife 10 = .ok (.new 65, 3) := by decide +kernel
theorem dX2_requireSharpKnife_13 : decode cX2_requireSharpKnife 13 = .ok (.dup, 1) := by decide +kernel
theorem dX2_requireSharpKnife_14 : decode cX2_requireSharpKnife 14 = .ok (.ldc 169, 2) := by decide +kernel
theorem dX2_requireSharpKnife_16 : decode cX2_requireSharpKnife 16 = .ok (.invokespecial 69, 3) := by decide +kernel
theorem dX2_requireSharpKnife_19 : decode cX2_requireSharpKnife 19 = .ok (.athrow, 1) := by decide +kernel
theorem dX2_requireSharpKnife_20 : decode cX2_requireSharpKnife 20 = .ok (.return_, 1) := by decide +kernel
theorem dX2_kindOn_0 : decode cX2_kindOn 0 = .ok (.aload_n 0, 1) := by decide +kernel
theorem dX2_kindOn_1 : decode cX2_kindOn 1 = .ok (.getfield 11, 3) := by decide +kernel
theorem dX2_kindOn_4 : decode cX2_kindOn 4 = .ok (.iload_n 1, 1) := by decide +kernel
theorem dX2_kindOn_5 : decode cX2_kindOn 5 = .ok (.aaload, 1) := by decide +kernel
theorem dX2_kindOn_6 : decode cX2_kindOn 6 = .ok (.astore_n 2, 1) := by decide +kernel
theorem dX2_kindOn_7 : decode cX2_kindOn 7 = .ok (.aload_n 2, 1) := by decide +kernel
theorem dX2_kindOn_8 : decode cX2_kindOn 8 = .ok (.ifnonnull 7, 3) := by decide +kernel
theorem dX2_kindOn_11 : decode cX2_kindOn 11 = .ok (.iconst 0, 1) := by decide +kernel
theorem dX2_kindOn_12 : decode cX2_kindOn 12 = .ok (.goto 7, 3) := by decide +kernel
