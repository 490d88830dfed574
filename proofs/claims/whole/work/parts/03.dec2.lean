theorem dX3_cut_172 : decode cX3_cut 172 = .ok (.aload_n 0, 1) := by decide +kernel
theorem dX3_cut_173 : decode cX3_cut 173 = .ok (.iload 6, 2) := by decide +kernel
theorem dX3_cut_175 : decode cX3_cut 175 = .ok (.ifCond .ge 12, 3) := by decide +kernel
theorem dX3_cut_178 : decode cX3_cut 178 = .ok (.aload_n 0, 1) := by decide +kernel
theorem dX3_cut_179 : decode cX3_cut 179 = .ok (.getfield 76, 3) := by decide +kernel
theorem dX3_cut_182 : decode cX3_cut 182 = .ok (.iconst 1, 1) := by decide +kernel
theorem dX3_cut_183 : decode cX3_cut 183 = .ok (.iadd, 1) := by decide +kernel
theorem dX3_cut_184 : decode cX3_cut 184 = .ok (.goto 7, 3) := by decide +kernel
theorem dX3_cut_187 : decode cX3_cut 187 = .ok (.aload_n 0, 1) := by decide +kernel
theorem dX3_cut_188 : decode cX3_cut 188 = .ok (.getfield 76, 3) := by decide +kernel
theorem dX3_cut_191 : decode cX3_cut 191 = .ok (.putfield 76, 3) := by decide +kernel
theorem dX3_cut_194 : decode cX3_cut 194 = .ok (.aload_n 0, 1) := by decide +kernel
theorem dX3_cut_195 : decode cX3_cut 195 = .ok (.iload 6, 2) := by decide +kernel
theorem dX3_cut_197 : decode cX3_cut 197 = .ok (.ifCond .ge 12, 3) := by decide +kernel
theorem dX3_cut_200 : decode cX3_cut 200 = .ok (.aload_n 0, 1) := by decide +kernel
theorem dX3_cut_201 : decode cX3_cut 201 = .ok (.getfield 79, 3) := by decide +kernel
theorem dX3_cut_204 : decode cX3_cut 204 = .ok (.iconst 1, 1) := by decide +kernel
theorem dX3_cut_205 : decode cX3_cut 205 = .ok (.iadd, 1) := by decide +kernel
theorem dX3_cut_206 : decode cX3_cut 206 = .ok (.goto 4, 3) := by decide +kernel
theorem dX3_cut_209 : decode cX3_cut 209 = .ok (.iconst 0, 1) := by decide +kernel
theorem dX3_cut_210 : decode cX3_cut 210 = .ok (.putfield 79, 3) := by decide +kernel
theorem dX3_cut_213 : decode cX3_cut 213 = .ok (.aload_n 0, 1) := by decide +kernel
theorem dX3_cut_214 : decode cX3_cut 214 = .ok (.iload 6, 2) := by decide +kernel
theorem dX3_cut_216 : decode cX3_cut 216 = .ok (.ifCond .ge 10, 3) := by decide +kernel
theorem dX3_cut_219 : decode cX3_cut 219 = .ok (.aload_n 0, 1) := by decide +kernel
theorem dX3_cut_220 : decode cX3_cut 220 = .ok (.getfield 82, 3) := by decide +kernel
theorem dX3_cut_223 : decode cX3_cut 223 = .ok (.goto 9, 3) := by decide +kernel
theorem dX3_cut_226 : decode cX3_cut 226 = .ok (.aload_n 0, 1) := by decide +kernel
theorem dX3_cut_227 : decode cX3_cut 227 = .ok (.getfield 82, 3) := by decide +kernel
theorem dX3_cut_230 : decode cX3_cut 230 = .ok (.iconst 1, 1) := by decide +kernel
theorem dX3_cut_231 : decode cX3_cut 231 = .ok (.iadd, 1) := by decide +kernel
theorem dX3_cut_232 : decode cX3_cut 232 = .ok (.putfield 82, 3) := by decide +kernel
theorem dX3_cut_235 : decode cX3_cut 235 = .ok (.aload_n 0, 1) := by decide +kernel
theorem dX3_cut_236 : decode cX3_cut 236 = .ok (.iload 6, 2) := by decide +kernel
theorem dX3_cut_238 : decode cX3_cut 238 = .ok (.ifCond .ge 8, 3) := by decide +kernel
theorem dX3_cut_241 : decode cX3_cut 241 = .ok (.iload 6, 2) := by decide +kernel
theorem dX3_cut_243 : decode cX3_cut 243 = .ok (.goto 5, 3) := by decide +kernel
theorem dX3_cut_246 : decode cX3_cut 246 = .ok (.iload 5, 2) := by decide +kernel
theorem dX3_cut_248 : decode cX3_cut 248 = .ok (.putfield 85, 3) := by decide +kernel
theorem dX3_cut_251 : decode cX3_cut 251 = .ok (.aload_n 0, 1) := by decide +kernel
theorem dX3_cut_252 : decode cX3_cut 252 = .ok (.getfield 85, 3) := by decide +kernel
theorem dX3_cut_255 : decode cX3_cut 255 = .ok (.ireturn, 1) := by decide +kernel
theorem dX3_isBlunt_0 : decode cX3_isBlunt 0 = .ok (.aload_n 0, 1) := by decide +kernel
theorem dX3_isBlunt_1 : decode cX3_isBlunt 1 = .ok (.getfield 79, 3) := by decide +kernel
theorem dX3_isBlunt_4 : decode cX3_isBlunt 4 = .ok (.iconst 3, 1) := by decide +kernel
theorem dX3_isBlunt_5 : decode cX3_isBlunt 5 = .ok (.if_icmp .ne 7, 3) := by decide +kernel
theorem dX3_isBlunt_8 : decode cX3_isBlunt 8 = .ok (.iconst 1, 1) := by decide +kernel
theorem dX3_isBlunt_9 : decode cX3_isBlunt 9 = .ok (.goto 4, 3) := by decide +kernel
theorem dX3_isBlunt_12 : decode cX3_isBlunt 12 = .ok (.iconst 0, 1) := by decide +kernel
theorem dX3_isBlunt_13 : decode cX3_isBlunt 13 = .ok (.ireturn, 1) := by decide +kernel
theorem dX3_splice_0 : decode cX3_splice 0 = .ok (.aload_n 0, 1) := by decide +kernel
theorem dX3_splice_1 : decode cX3_splice 1 = .ok (.iload_n 1, 1) := by decide +kernel
theorem dX3_splice_2 : decode cX3_splice 2 = .ok (.invokestatic 41, 3) := by decide +kernel
theorem dX3_splice_5 : decode cX3_splice 5 = .ok (.ifCond .eq 10, 3) := by decide +kernel
theorem dX3_splice_8 : decode cX3_splice 8 = .ok (.iload_n 3, 1) := by decide +kernel
theorem dX3_splice_9 : decode cX3_splice 9 = .ok (.invokestatic 41, 3) := by decide +kernel
theorem dX3_splice_12 : decode cX3_splice 12 = .ok (.ifCond .ne 7, 3) := by decide +kernel
theorem dX3_splice_15 : decode cX3_splice 15 = .ok (.iconst 1, 1) := by decide +kernel
theorem dX3_splice_16 : decode cX3_splice 16 = .ok (.goto 15, 3) := by decide +kernel
theorem dX3_splice_19 : decode cX3_splice 19 = .ok (.aload_n 0, 1) := by decide +kernel
theorem dX3_splice_20 : decode cX3_splice 20 = .ok (.invokevirtual 88, 3) := by decide +kernel
theorem dX3_splice_23 : decode cX3_splice 23 = .ok (.ifCond .eq 7, 3) := by decide +kernel
theorem dX3_splice_26 : decode cX3_splice 26 = .ok (.iconst 2, 1) := by decide +kernel
theorem dX3_splice_27 : decode cX3_splice 27 = .ok (.goto 4, 3) := by decide +kernel
theorem dX3_splice_30 : decode cX3_splice 30 = .ok (.iconst 0, 1) := by decide +kernel
theorem dX3_splice_31 : decode cX3_splice 31 = .ok (.putfield 29, 3) := by decide +kernel
theorem dX3_splice_34 : decode cX3_splice 34 = .ok (.aload_n 0, 1) := by decide +kernel
theorem dX3_splice_35 : decode cX3_splice 35 = .ok (.getfield 29, 3) := by decide +kernel
theorem dX3_splice_38 : decode cX3_splice 38 = .ok (.ifCond .le 7, 3) := by decide +kernel
theorem dX3_splice_41 : decode cX3_splice 41 = .ok (.iconst 0, 1) := by decide +kernel
theorem dX3_splice_42 : decode cX3_splice 42 = .ok (.goto 14, 3) := by decide +kernel
theorem dX3_splice_45 : decode cX3_splice 45 = .ok (.aload_n 0, 1) := by decide +kernel
theorem dX3_splice_46 : decode cX3_splice 46 = .ok (.iload_n 1, 1) := by decide +kernel
theorem dX3_splice_47 : decode cX3_splice 47 = .ok (.iload_n 2, 1) := by decide +kernel
theorem dX3_splice_48 : decode cX3_splice 48 = .ok (.iload_n 3, 1) := by decide +kernel
theorem dX3_splice_49 : decode cX3_splice 49 = .ok (.iload 4, 2) := by decide +kernel
theorem dX3_splice_51 : decode cX3_splice 51 = .ok (.iload 5, 2) := by decide +kernel
theorem dX3_splice_53 : decode cX3_splice 53 = .ok (.invokevirtual 92, 3) := by decide +kernel
theorem dX3_splice_56 : decode cX3_splice 56 = .ok (.ireturn, 1) := by decide +kernel
theorem dX3_step_0 : decode cX3_step 0 = .ok (.aload_n 0, 1) := by decide +kernel
theorem dX3_step_1 : decode cX3_step 1 = .ok (.iload_n 1, 1) := by decide +kernel
theorem dX3_step_2 : decode cX3_step 2 = .ok (.invokestatic 41, 3) := by decide +kernel
theorem dX3_step_5 : decode cX3_step 5 = .ok (.ifCond .eq 10, 3) := by decide +kernel
theorem dX3_step_8 : decode cX3_step 8 = .ok (.iload_n 3, 1) := by decide +kernel
theorem dX3_step_9 : decode cX3_step 9 = .ok (.invokestatic 41, 3) := by decide +kernel
theorem dX3_step_12 : decode cX3_step 12 = .ok (.ifCond .ne 7, 3) := by decide +kernel
theorem dX3_step_15 : decode cX3_step 15 = .ok (.iconst 1, 1) := by decide +kernel
theorem dX3_step_16 : decode cX3_step 16 = .ok (.goto 17, 3) := by decide +kernel
theorem dX3_step_19 : decode cX3_step 19 = .ok (.aload_n 0, 1) := by decide +kernel
theorem dX3_step_20 : decode cX3_step 20 = .ok (.getfield 95, 3) := by decide +kernel
theorem dX3_step_23 : decode cX3_step 23 = .ok (.bipush 24, 2) := by decide +kernel
theorem dX3_step_25 : decode cX3_step 25 = .ok (.if_icmp .ne 7, 3) := by decide +kernel
theorem dX3_step_28 : decode cX3_step 28 = .ok (.iconst 2, 1) := by decide +kernel
theorem dX3_step_29 : decode cX3_step 29 = .ok (.goto 4, 3) := by decide +kernel
theorem dX3_step_32 : decode cX3_step 32 = .ok (.iconst 0, 1) := by decide +kernel
theorem dX3_step_33 : decode cX3_step 33 = .ok (.putfield 29, 3) := by decide +kernel
theorem dX3_step_36 : decode cX3_step 36 = .ok (.aload_n 0, 1) := by decide +kernel
theorem dX3_step_37 : decode cX3_step 37 = .ok (.getfield 29, 3) := by decide +kernel
theorem dX3_step_40 : decode cX3_step 40 = .ok (.ifCond .le 5, 3) := by decide +kernel
theorem dX3_step_43 : decode cX3_step 43 = .ok (.iconst 0, 1) := by decide +kernel
theorem dX3_step_44 : decode cX3_step 44 = .ok (.ireturn, 1) := by decide +kernel
theorem dX3_step_45 : decode cX3_step 45 = .ok (.iconst 5, 1) := by decide +kernel
theorem dX3_step_46 : decode cX3_step 46 = .ok (.aload_n 0, 1) := by decide +kernel
theorem dX3_step_47 : decode cX3_step 47 = .ok (.getfield 95, 3) := by decide +kernel
theorem dX3_step_50 : decode cX3_step 50 = .ok (.imul, 1) := by decide +kernel
theorem dX3_step_51 : decode cX3_step 51 = .ok (.istore 6, 2) := by decide +kernel
theorem dX3_step_53 : decode cX3_step 53 = .ok (.aload_n 0, 1) := by decide +kernel
theorem dX3_step_54 : decode cX3_step 54 = .ok (.getfield 26, 3) := by decide +kernel
theorem dX3_step_57 : decode cX3_step 57 = .ok (.iload 6, 2) := by decide +kernel
theorem dX3_step_59 : decode cX3_step 59 = .ok (.iload_n 1, 1) := by decide +kernel
theorem dX3_step_60 : decode cX3_step 60 = .ok (.iastore, 1) := by decide +kernel
theorem dX3_step_61 : decode cX3_step 61 = .ok (.aload_n 0, 1) := by decide +kernel
theorem dX3_step_62 : decode cX3_step 62 = .ok (.getfield 26, 3) := by decide +kernel
theorem dX3_step_65 : decode cX3_step 65 = .ok (.iload 6, 2) := by decide +kernel
theorem dX3_step_67 : decode cX3_step 67 = .ok (.iconst 1, 1) := by decide +kernel
theorem dX3_step_68 : decode cX3_step 68 = .ok (.iadd, 1) := by decide +kernel
theorem dX3_step_69 : decode cX3_step 69 = .ok (.iload_n 2, 1) := by decide +kernel
theorem dX3_step_70 : decode cX3_step 70 = .ok (.iastore, 1) := by decide +kernel
theorem dX3_step_71 : decode cX3_step 71 = .ok (.aload_n 0, 1) := by decide +kernel
theorem dX3_step_72 : decode cX3_step 72 = .ok (.getfield 26, 3) := by decide +kernel
theorem dX3_step_75 : decode cX3_step 75 = .ok (.iload 6, 2) := by decide +kernel
theorem dX3_step_77 : decode cX3_step 77 = .ok (.iconst 2, 1) := by decide +kernel
theorem dX3_step_78 : decode cX3_step 78 = .ok (.iadd, 1) := by decide +kernel
theorem dX3_step_79 : decode cX3_step 79 = .ok (.iload_n 3, 1) := by decide +kernel
theorem dX3_step_80 : decode cX3_step 80 = .ok (.iastore, 1) := by decide +kernel
theorem dX3_step_81 : decode cX3_step 81 = .ok (.aload_n 0, 1) := by decide +kernel
theorem dX3_step_82 : decode cX3_step 82 = .ok (.getfield 26, 3) := by decide +kernel
theorem dX3_step_85 : decode cX3_step 85 = .ok (.iload 6, 2) := by decide +kernel
theorem dX3_step_87 : decode cX3_step 87 = .ok (.iconst 3, 1) := by decide +kernel
theorem dX3_step_88 : decode cX3_step 88 = .ok (.iadd, 1) := by decide +kernel
theorem dX3_step_89 : decode cX3_step 89 = .ok (.iload 4, 2) := by decide +kernel
theorem dX3_step_91 : decode cX3_step 91 = .ok (.iastore, 1) := by decide +kernel
theorem dX3_step_92 : decode cX3_step 92 = .ok (.aload_n 0, 1) := by decide +kernel
theorem dX3_step_93 : decode cX3_step 93 = .ok (.getfield 26, 3) := by decide +kernel
theorem dX3_step_96 : decode cX3_step 96 = .ok (.iload 6, 2) := by decide +kernel
theorem dX3_step_98 : decode cX3_step 98 = .ok (.iconst 4, 1) := by decide +kernel
theorem dX3_step_99 : decode cX3_step 99 = .ok (.iadd, 1) := by decide +kernel
theorem dX3_step_100 : decode cX3_step 100 = .ok (.iload 5, 2) := by decide +kernel
theorem dX3_step_102 : decode cX3_step 102 = .ok (.iastore, 1) := by decide +kernel
theorem dX3_step_103 : decode cX3_step 103 = .ok (.aload_n 0, 1) := by decide +kernel
theorem dX3_step_104 : decode cX3_step 104 = .ok (.dup, 1) := by decide +kernel
theorem dX3_step_105 : decode cX3_step 105 = .ok (.getfield 95, 3) := by decide +kernel
theorem dX3_step_108 : decode cX3_step 108 = .ok (.iconst 1, 1) := by decide +kernel
theorem dX3_step_109 : decode cX3_step 109 = .ok (.iadd, 1) := by decide +kernel
theorem dX3_step_110 : decode cX3_step 110 = .ok (.putfield 95, 3) := by decide +kernel
theorem dX3_step_113 : decode cX3_step 113 = .ok (.aload_n 0, 1) := by decide +kernel
theorem dX3_step_114 : decode cX3_step 114 = .ok (.getfield 95, 3) := by decide +kernel
theorem dX3_step_117 : decode cX3_step 117 = .ok (.ireturn, 1) := by decide +kernel
theorem dX3_play_0 : decode cX3_play 0 = .ok (.aload_n 0, 1) := by decide +kernel
theorem dX3_play_1 : decode cX3_play 1 = .ok (.aload_n 0, 1) := by decide +kernel
theorem dX3_play_2 : decode cX3_play 2 = .ok (.invokevirtual 88, 3) := by decide +kernel
theorem dX3_play_5 : decode cX3_play 5 = .ok (.ifCond .eq 7, 3) := by decide +kernel
theorem dX3_play_8 : decode cX3_play 8 = .ok (.iconst 1, 1) := by decide +kernel
theorem dX3_play_9 : decode cX3_play 9 = .ok (.goto 4, 3) := by decide +kernel
theorem dX3_play_12 : decode cX3_play 12 = .ok (.iconst 0, 1) := by decide +kernel
theorem dX3_play_13 : decode cX3_play 13 = .ok (.putfield 29, 3) := by decide +kernel
theorem dX3_play_16 : decode cX3_play 16 = .ok (.iconst 0, 1) := by decide +kernel
theorem dX3_play_17 : decode cX3_play 17 = .ok (.istore_n 2, 1) := by decide +kernel
theorem dX3_play_18 : decode cX3_play 18 = .ok (.aload_n 0, 1) := by decide +kernel
theorem dX3_play_19 : decode cX3_play 19 = .ok (.getfield 29, 3) := by decide +kernel
theorem dX3_play_22 : decode cX3_play 22 = .ok (.ifCond .ne 7, 3) := by decide +kernel
theorem dX3_play_25 : decode cX3_play 25 = .ok (.iconst 1, 1) := by decide +kernel
theorem dX3_play_26 : decode cX3_play 26 = .ok (.goto 4, 3) := by decide +kernel
theorem dX3_play_29 : decode cX3_play 29 = .ok (.iconst 0, 1) := by decide +kernel
theorem dX3_play_30 : decode cX3_play 30 = .ok (.istore_n 3, 1) := by decide +kernel
theorem dX3_play_31 : decode cX3_play 31 = .ok (.iconst 0, 1) := by decide +kernel
theorem dX3_play_32 : decode cX3_play 32 = .ok (.istore 4, 2) := by decide +kernel
theorem dX3_play_34 : decode cX3_play 34 = .ok (.iload 4, 2) := by decide +kernel
theorem dX3_play_36 : decode cX3_play 36 = .ok (.aload_n 0, 1) := by decide +kernel
theorem dX3_play_37 : decode cX3_play 37 = .ok (.getfield 95, 3) := by decide +kernel
theorem dX3_play_40 : decode cX3_play 40 = .ok (.if_icmp .ge 161, 3) := by decide +kernel
theorem dX3_play_43 : decode cX3_play 43 = .ok (.iload_n 3, 1) := by decide +kernel
theorem dX3_play_44 : decode cX3_play 44 = .ok (.ifCond .eq 157, 3) := by decide +kernel
theorem dX3_play_47 : decode cX3_play 47 = .ok (.iconst 5, 1) := by decide +kernel
theorem dX3_play_48 : decode cX3_play 48 = .ok (.iload_n 1, 1) := by decide +kernel
theorem dX3_play_49 : decode cX3_play 49 = .ok (.ifCond .eq 15, 3) := by decide +kernel
theorem dX3_play_52 : decode cX3_play 52 = .ok (.aload_n 0, 1) := by decide +kernel
theorem dX3_play_53 : decode cX3_play 53 = .ok (.getfield 95, 3) := by decide +kernel
theorem dX3_play_56 : decode cX3_play 56 = .ok (.iconst 1, 1) := by decide +kernel
theorem dX3_play_57 : decode cX3_play 57 = .ok (.isub, 1) := by decide +kernel
theorem dX3_play_58 : decode cX3_play 58 = .ok (.iload 4, 2) := by decide +kernel
theorem dX3_play_60 : decode cX3_play 60 = .ok (.isub, 1) := by decide +kernel
theorem dX3_play_61 : decode cX3_play 61 = .ok (.goto 5, 3) := by decide +kernel
theorem dX3_play_64 : decode cX3_play 64 = .ok (.iload 4, 2) := by decide +kernel
theorem dX3_play_66 : decode cX3_play 66 = .ok (.imul, 1) := by decide +kernel
theorem dX3_play_67 : decode cX3_play 67 = .ok (.istore 5, 2) := by decide +kernel
theorem dX3_play_69 : decode cX3_play 69 = .ok (.iload_n 1, 1) := by decide +kernel
theorem dX3_play_70 : decode cX3_play 70 = .ok (.ifCond .eq 53, 3) := by decide +kernel
theorem dX3_play_73 : decode cX3_play 73 = .ok (.aload_n 0, 1) := by decide +kernel
theorem dX3_play_74 : decode cX3_play 74 = .ok (.aload_n 0, 1) := by decide +kernel
theorem dX3_play_75 : decode cX3_play 75 = .ok (.getfield 26, 3) := by decide +kernel
theorem dX3_play_78 : decode cX3_play 78 = .ok (.iload 5, 2) := by decide +kernel
theorem dX3_play_80 : decode cX3_play 80 = .ok (.iconst 2, 1) := by decide +kernel
theorem dX3_play_81 : decode cX3_play 81 = .ok (.iadd, 1) := by decide +kernel
theorem dX3_play_82 : decode cX3_play 82 = .ok (.iaload, 1) := by decide +kernel
theorem dX3_play_83 : decode cX3_play 83 = .ok (.aload_n 0, 1) := by decide +kernel
theorem dX3_play_84 : decode cX3_play 84 = .ok (.getfield 26, 3) := by decide +kernel
theorem dX3_play_87 : decode cX3_play 87 = .ok (.iload 5, 2) := by decide +kernel
theorem dX3_play_89 : decode cX3_play 89 = .ok (.iconst 3, 1) := by decide +kernel
theorem dX3_play_90 : decode cX3_play 90 = .ok (.iadd, 1) := by decide +kernel
theorem dX3_play_91 : decode cX3_play 91 = .ok (.iaload, 1) := by decide +kernel
theorem dX3_play_92 : decode cX3_play 92 = .ok (.aload_n 0, 1) := by decide +kernel
theorem dX3_play_93 : decode cX3_play 93 = .ok (.getfield 26, 3) := by decide +kernel
theorem dX3_play_96 : decode cX3_play 96 = .ok (.iload 5, 2) := by decide +kernel
theorem dX3_play_98 : decode cX3_play 98 = .ok (.iaload, 1) := by decide +kernel
theorem dX3_play_99 : decode cX3_play 99 = .ok (.aload_n 0, 1) := by decide +kernel
theorem dX3_play_100 : decode cX3_play 100 = .ok (.getfield 26, 3) := by decide +kernel
theorem dX3_play_103 : decode cX3_play 103 = .ok (.iload 5, 2) := by decide +kernel
theorem dX3_play_105 : decode cX3_play 105 = .ok (.iconst 1, 1) := by decide +kernel
theorem dX3_play_106 : decode cX3_play 106 = .ok (.iadd, 1) := by decide +kernel
theorem dX3_play_107 : decode cX3_play 107 = .ok (.iaload, 1) := by decide +kernel
theorem dX3_play_108 : decode cX3_play 108 = .ok (.aload_n 0, 1) := by decide +kernel
theorem dX3_play_109 : decode cX3_play 109 = .ok (.getfield 26, 3) := by decide +kernel
theorem dX3_play_112 : decode cX3_play 112 = .ok (.iload 5, 2) := by decide +kernel
theorem dX3_play_114 : decode cX3_play 114 = .ok (.iconst 4, 1) := by decide +kernel
theorem dX3_play_115 : decode cX3_play 115 = .ok (.iadd, 1) := by decide +kernel
theorem dX3_play_116 : decode cX3_play 116 = .ok (.iaload, 1) := by decide +kernel
theorem dX3_play_117 : decode cX3_play 117 = .ok (.invokevirtual 92, 3) := by decide +kernel
theorem dX3_play_120 : decode cX3_play 120 = .ok (.goto 50, 3) := by decide +kernel
theorem dX3_play_123 : decode cX3_play 123 = .ok (.aload_n 0, 1) := by decide +kernel
theorem dX3_play_124 : decode cX3_play 124 = .ok (.aload_n 0, 1) := by decide +kernel
theorem dX3_play_125 : decode cX3_play 125 = .ok (.getfield 26, 3) := by decide +kernel
theorem dX3_play_128 : decode cX3_play 128 = .ok (.iload 5, 2) := by decide +kernel
theorem dX3_play_130 : decode cX3_play 130 = .ok (.iaload, 1) := by decide +kernel
theorem dX3_play_131 : decode cX3_play 131 = .ok (.aload_n 0, 1) := by decide +kernel
theorem dX3_play_132 : decode cX3_play 132 = .ok (.getfield 26, 3) := by decide +kernel
theorem dX3_play_135 : decode cX3_play 135 = .ok (.iload 5, 2) := by decide +kernel
theorem dX3_play_137 : decode cX3_play 137 = .ok (.iconst 1, 1) := by decide +kernel
theorem dX3_play_138 : decode cX3_play 138 = .ok (.iadd, 1) := by decide +kernel
theorem dX3_play_139 : decode cX3_play 139 = .ok (.iaload, 1) := by decide +kernel
theorem dX3_play_140 : decode cX3_play 140 = .ok (.aload_n 0, 1) := by decide +kernel
theorem dX3_play_141 : decode cX3_play 141 = .ok (.getfield 26, 3) := by decide +kernel
theorem dX3_play_144 : decode cX3_play 144 = .ok (.iload 5, 2) := by decide +kernel
theorem dX3_play_146 : decode cX3_play 146 = .ok (.iconst 2, 1) := by decide +kernel
theorem dX3_play_147 : decode cX3_play 147 = .ok (.iadd, 1) := by decide +kernel
theorem dX3_play_148 : decode cX3_play 148 = .ok (.iaload, 1) := by decide +kernel
theorem dX3_play_149 : decode cX3_play 149 = .ok (.aload_n 0, 1) := by decide +kernel
theorem dX3_play_150 : decode cX3_play 150 = .ok (.getfield 26, 3) := by decide +kernel
theorem dX3_play_153 : decode cX3_play 153 = .ok (.iload 5, 2) := by decide +kernel
theorem dX3_play_155 : decode cX3_play 155 = .ok (.iconst 3, 1) := by decide +kernel
theorem dX3_play_156 : decode cX3_play 156 = .ok (.iadd, 1) := by decide +kernel
theorem dX3_play_157 : decode cX3_play 157 = .ok (.iaload, 1) := by decide +kernel
theorem dX3_play_158 : decode cX3_play 158 = .ok (.aload_n 0, 1) := by decide +kernel
theorem dX3_play_159 : decode cX3_play 159 = .ok (.getfield 26, 3) := by decide +kernel
theorem dX3_play_162 : decode cX3_play 162 = .ok (.iload 5, 2) := by decide +kernel
theorem dX3_play_164 : decode cX3_play 164 = .ok (.iconst 4, 1) := by decide +kernel
theorem dX3_play_165 : decode cX3_play 165 = .ok (.iadd, 1) := by decide +kernel
theorem dX3_play_166 : decode cX3_play 166 = .ok (.iaload, 1) := by decide +kernel
theorem dX3_play_167 : decode cX3_play 167 = .ok (.invokevirtual 92, 3) := by decide +kernel
theorem dX3_play_170 : decode cX3_play 170 = .ok (.istore 6, 2) := by decide +kernel
theorem dX3_play_172 : decode cX3_play 172 = .ok (.iload 6, 2) := by decide +kernel
theorem dX3_play_174 : decode cX3_play 174 = .ok (.ifCond .lt 7, 3) := by decide +kernel
theorem dX3_play_177 : decode cX3_play 177 = .ok (.iconst 1, 1) := by decide +kernel
theorem dX3_play_178 : decode cX3_play 178 = .ok (.goto 4, 3) := by decide +kernel
theorem dX3_play_181 : decode cX3_play 181 = .ok (.iconst 0, 1) := by decide +kernel
theorem dX3_play_182 : decode cX3_play 182 = .ok (.istore_n 3, 1) := by decide +kernel
theorem dX3_play_183 : decode cX3_play 183 = .ok (.iload_n 3, 1) := by decide +kernel
theorem dX3_play_184 : decode cX3_play 184 = .ok (.ifCond .eq 9, 3) := by decide +kernel
theorem dX3_play_187 : decode cX3_play 187 = .ok (.iload_n 2, 1) := by decide +kernel
theorem dX3_play_188 : decode cX3_play 188 = .ok (.iconst 1, 1) := by decide +kernel
theorem dX3_play_189 : decode cX3_play 189 = .ok (.iadd, 1) := by decide +kernel
theorem dX3_play_190 : decode cX3_play 190 = .ok (.goto 4, 3) := by decide +kernel
theorem dX3_play_193 : decode cX3_play 193 = .ok (.iload_n 2, 1) := by decide +kernel
theorem dX3_play_194 : decode cX3_play 194 = .ok (.istore_n 2, 1) := by decide +kernel
theorem dX3_play_195 : decode cX3_play 195 = .ok (.iinc 4 1, 3) := by decide +kernel
theorem dX3_play_198 : decode cX3_play 198 = .ok (.goto (-164), 3) := by decide +kernel
theorem dX3_play_201 : decode cX3_play 201 = .ok (.iload_n 2, 1) := by decide +kernel
theorem dX3_play_202 : decode cX3_play 202 = .ok (.ireturn, 1) := by decide +kernel
theorem dX3_sweep_0 : decode cX3_sweep 0 = .ok (.aload_n 0, 1) := by decide +kernel
theorem dX3_sweep_1 : decode cX3_sweep 1 = .ok (.iconst 0, 1) := by decide +kernel
theorem dX3_sweep_2 : decode cX3_sweep 2 = .ok (.putfield 29, 3) := by decide +kernel
theorem dX3_sweep_5 : decode cX3_sweep 5 = .ok (.aload_n 0, 1) := by decide +kernel
theorem dX3_sweep_6 : decode cX3_sweep 6 = .ok (.getfield 95, 3) := by decide +kernel
theorem dX3_sweep_9 : decode cX3_sweep 9 = .ok (.istore_n 1, 1) := by decide +kernel
theorem dX3_sweep_10 : decode cX3_sweep 10 = .ok (.aload_n 0, 1) := by decide +kernel
theorem dX3_sweep_11 : decode cX3_sweep 11 = .ok (.iconst 0, 1) := by decide +kernel
theorem dX3_sweep_12 : decode cX3_sweep 12 = .ok (.putfield 95, 3) := by decide +kernel
theorem dX3_sweep_15 : decode cX3_sweep 15 = .ok (.iload_n 1, 1) := by decide +kernel
theorem dX3_sweep_16 : decode cX3_sweep 16 = .ok (.ireturn, 1) := by decide +kernel
theorem dX3_grind_0 : decode cX3_grind 0 = .ok (.aload_n 0, 1) := by decide +kernel
theorem dX3_grind_1 : decode cX3_grind 1 = .ok (.aload_n 0, 1) := by decide +kernel
theorem dX3_grind_2 : decode cX3_grind 2 = .ok (.invokevirtual 88, 3) := by decide +kernel
theorem dX3_grind_5 : decode cX3_grind 5 = .ok (.ifCond .eq 7, 3) := by decide +kernel
theorem dX3_grind_8 : decode cX3_grind 8 = .ok (.iconst 0, 1) := by decide +kernel
theorem dX3_grind_9 : decode cX3_grind 9 = .ok (.goto 4, 3) := by decide +kernel
theorem dX3_grind_12 : decode cX3_grind 12 = .ok (.iconst 1, 1) := by decide +kernel
theorem dX3_grind_13 : decode cX3_grind 13 = .ok (.putfield 29, 3) := by decide +kernel
theorem dX3_grind_16 : decode cX3_grind 16 = .ok (.aload_n 0, 1) := by decide +kernel
theorem dX3_grind_17 : decode cX3_grind 17 = .ok (.getfield 29, 3) := by decide +kernel
theorem dX3_grind_20 : decode cX3_grind 20 = .ok (.ifCond .le 5, 3) := by decide +kernel
theorem dX3_grind_23 : decode cX3_grind 23 = .ok (.iconst 0, 1) := by decide +kernel
theorem dX3_grind_24 : decode cX3_grind 24 = .ok (.ireturn, 1) := by decide +kernel
theorem dX3_grind_25 : decode cX3_grind 25 = .ok (.aload_n 0, 1) := by decide +kernel
theorem dX3_grind_26 : decode cX3_grind 26 = .ok (.iconst 0, 1) := by decide +kernel
theorem dX3_grind_27 : decode cX3_grind 27 = .ok (.putfield 79, 3) := by decide +kernel
theorem dX3_grind_30 : decode cX3_grind 30 = .ok (.aload_n 0, 1) := by decide +kernel
theorem dX3_grind_31 : decode cX3_grind 31 = .ok (.dup, 1) := by decide +kernel
theorem dX3_grind_32 : decode cX3_grind 32 = .ok (.getfield 98, 3) := by decide +kernel
theorem dX3_grind_35 : decode cX3_grind 35 = .ok (.iconst 1, 1) := by decide +kernel
theorem dX3_grind_36 : decode cX3_grind 36 = .ok (.iadd, 1) := by decide +kernel
theorem dX3_grind_37 : decode cX3_grind 37 = .ok (.putfield 98, 3) := by decide +kernel
theorem dX3_grind_40 : decode cX3_grind 40 = .ok (.aload_n 0, 1) := by decide +kernel
theorem dX3_grind_41 : decode cX3_grind 41 = .ok (.getfield 98, 3) := by decide +kernel
theorem dX3_grind_44 : decode cX3_grind 44 = .ok (.ireturn, 1) := by decide +kernel
theorem dX3_look_0 : decode cX3_look 0 = .ok (.aload_n 0, 1) := by decide +kernel
theorem dX3_look_1 : decode cX3_look 1 = .ok (.iload_n 1, 1) := by decide +kernel
theorem dX3_look_2 : decode cX3_look 2 = .ok (.invokestatic 41, 3) := by decide +kernel
theorem dX3_look_5 : decode cX3_look 5 = .ok (.ifCond .eq 16, 3) := by decide +kernel
theorem dX3_look_8 : decode cX3_look 8 = .ok (.iload_n 2, 1) := by decide +kernel
theorem dX3_look_9 : decode cX3_look 9 = .ok (.iconst 0, 1) := by decide +kernel
theorem dX3_look_10 : decode cX3_look 10 = .ok (.iconst 2, 1) := by decide +kernel
theorem dX3_look_11 : decode cX3_look 11 = .ok (.invokestatic 33, 3) := by decide +kernel
theorem dX3_look_14 : decode cX3_look 14 = .ok (.ifCond .eq 7, 3) := by decide +kernel
theorem dX3_look_17 : decode cX3_look 17 = .ok (.iconst 0, 1) := by decide +kernel
theorem dX3_look_18 : decode cX3_look 18 = .ok (.goto 4, 3) := by decide +kernel
theorem dX3_look_21 : decode cX3_look 21 = .ok (.iconst 1, 1) := by decide +kernel
theorem dX3_look_22 : decode cX3_look 22 = .ok (.putfield 29, 3) := by decide +kernel
theorem dX3_look_25 : decode cX3_look 25 = .ok (.aload_n 0, 1) := by decide +kernel
theorem dX3_look_26 : decode cX3_look 26 = .ok (.getfield 29, 3) := by decide +kernel
theorem dX3_look_29 : decode cX3_look 29 = .ok (.ifCond .le 5, 3) := by decide +kernel
theorem dX3_look_32 : decode cX3_look 32 = .ok (.iconst 0, 1) := by decide +kernel
theorem dX3_look_33 : decode cX3_look 33 = .ok (.ireturn, 1) := by decide +kernel
theorem dX3_look_34 : decode cX3_look 34 = .ok (.iload_n 2, 1) := by decide +kernel
theorem dX3_look_35 : decode cX3_look 35 = .ok (.ifCond .ne 9, 3) := by decide +kernel
theorem dX3_look_38 : decode cX3_look 38 = .ok (.aload_n 0, 1) := by decide +kernel
theorem dX3_look_39 : decode cX3_look 39 = .ok (.iload_n 1, 1) := by decide +kernel
theorem dX3_look_40 : decode cX3_look 40 = .ok (.invokevirtual 37, 3) := by decide +kernel
theorem dX3_look_43 : decode cX3_look 43 = .ok (.ireturn, 1) := by decide +kernel
theorem dX3_look_44 : decode cX3_look 44 = .ok (.iload_n 2, 1) := by decide +kernel
theorem dX3_look_45 : decode cX3_look 45 = .ok (.iconst 1, 1) := by decide +kernel
theorem dX3_look_46 : decode cX3_look 46 = .ok (.if_icmp .ne 21, 3) := by decide +kernel
theorem dX3_look_49 : decode cX3_look 49 = .ok (.aload_n 0, 1) := by decide +kernel
theorem dX3_look_50 : decode cX3_look 50 = .ok (.iload_n 1, 1) := by decide +kernel
theorem dX3_look_51 : decode cX3_look 51 = .ok (.invokevirtual 51, 3) := by decide +kernel
theorem dX3_look_54 : decode cX3_look 54 = .ok (.ifCond .eq 11, 3) := by decide +kernel
theorem dX3_look_57 : decode cX3_look 57 = .ok (.aload_n 0, 1) := by decide +kernel
theorem dX3_look_58 : decode cX3_look 58 = .ok (.iload_n 1, 1) := by decide +kernel
theorem dX3_look_59 : decode cX3_look 59 = .ok (.invokevirtual 54, 3) := by decide +kernel
theorem dX3_look_62 : decode cX3_look 62 = .ok (.goto 4, 3) := by decide +kernel
theorem dX3_look_65 : decode cX3_look 65 = .ok (.iconst (-1), 1) := by decide +kernel
theorem dX3_look_66 : decode cX3_look 66 = .ok (.ireturn, 1) := by decide +kernel
theorem dX3_look_67 : decode cX3_look 67 = .ok (.iconst 0, 1) := by decide +kernel
theorem dX3_look_68 : decode cX3_look 68 = .ok (.istore_n 3, 1) := by decide +kernel
theorem dX3_look_69 : decode cX3_look 69 = .ok (.iconst 0, 1) := by decide +kernel
theorem dX3_look_70 : decode cX3_look 70 = .ok (.istore 4, 2) := by decide +kernel
theorem dX3_look_72 : decode cX3_look 72 = .ok (.iload 4, 2) := by decide +kernel
theorem dX3_look_74 : decode cX3_look 74 = .ok (.bipush 6, 2) := by decide +kernel
theorem dX3_look_76 : decode cX3_look 76 = .ok (.if_icmp .ge 43, 3) := by decide +kernel
theorem dX3_look_79 : decode cX3_look 79 = .ok (.aload_n 0, 1) := by decide +kernel
theorem dX3_look_80 : decode cX3_look 80 = .ok (.getfield 7, 3) := by decide +kernel
theorem dX3_look_83 : decode cX3_look 83 = .ok (.iload_n 1, 1) := by decide +kernel
theorem dX3_look_84 : decode cX3_look 84 = .ok (.iaload, 1) := by decide +kernel
theorem dX3_look_85 : decode cX3_look 85 = .ok (.iconst (-1), 1) := by decide +kernel
theorem dX3_look_86 : decode cX3_look 86 = .ok (.if_icmp .eq 25, 3) := by decide +kernel
theorem dX3_look_89 : decode cX3_look 89 = .ok (.aload_n 0, 1) := by decide +kernel
theorem dX3_look_90 : decode cX3_look 90 = .ok (.getfield 7, 3) := by decide +kernel
theorem dX3_look_93 : decode cX3_look 93 = .ok (.iload 4, 2) := by decide +kernel
theorem dX3_look_95 : decode cX3_look 95 = .ok (.iaload, 1) := by decide +kernel
theorem dX3_look_96 : decode cX3_look 96 = .ok (.aload_n 0, 1) := by decide +kernel
theorem dX3_look_97 : decode cX3_look 97 = .ok (.getfield 7, 3) := by decide +kernel
theorem dX3_look_100 : decode cX3_look 100 = .ok (.iload_n 1, 1) := by decide +kernel
theorem dX3_look_101 : decode cX3_look 101 = .ok (.iaload, 1) := by decide +kernel
theorem dX3_look_102 : decode cX3_look 102 = .ok (.if_icmp .ne 9, 3) := by decide +kernel
theorem dX3_look_105 : decode cX3_look 105 = .ok (.iload_n 3, 1) := by decide +kernel
theorem dX3_look_106 : decode cX3_look 106 = .ok (.iconst 1, 1) := by decide +kernel
theorem dX3_look_107 : decode cX3_look 107 = .ok (.iadd, 1) := by decide +kernel
theorem dX3_look_108 : decode cX3_look 108 = .ok (.goto 4, 3) := by decide +kernel
theorem dX3_look_111 : decode cX3_look 111 = .ok (.iload_n 3, 1) := by decide +kernel
theorem dX3_look_112 : decode cX3_look 112 = .ok (.istore_n 3, 1) := by decide +kernel
theorem dX3_look_113 : decode cX3_look 113 = .ok (.iinc 4 1, 3) := by decide +kernel
theorem dX3_look_116 : decode cX3_look 116 = .ok (.goto (-44), 3) := by decide +kernel
theorem dX3_look_119 : decode cX3_look 119 = .ok (.iload_n 3, 1) := by decide +kernel
theorem dX3_look_120 : decode cX3_look 120 = .ok (.ireturn, 1) := by decide +kernel
theorem dX3_sum_0 : decode cX3_sum 0 = .ok (.aload_n 0, 1) := by decide +kernel
theorem dX3_sum_1 : decode cX3_sum 1 = .ok (.iload_n 1, 1) := by decide +kernel
theorem dX3_sum_2 : decode cX3_sum 2 = .ok (.invokestatic 41, 3) := by decide +kernel
theorem dX3_sum_5 : decode cX3_sum 5 = .ok (.ifCond .eq 7, 3) := by decide +kernel
theorem dX3_sum_8 : decode cX3_sum 8 = .ok (.iconst 0, 1) := by decide +kernel
theorem dX3_sum_9 : decode cX3_sum 9 = .ok (.goto 4, 3) := by decide +kernel
theorem dX3_sum_12 : decode cX3_sum 12 = .ok (.iconst 1, 1) := by decide +kernel
theorem dX3_sum_13 : decode cX3_sum 13 = .ok (.putfield 29, 3) := by decide +kernel
theorem dX3_sum_16 : decode cX3_sum 16 = .ok (.ldc2_w 101, 3) := by decide +kernel
theorem dX3_sum_19 : decode cX3_sum 19 = .ok (.lstore_n 2, 1) := by decide +kernel
theorem dX3_sum_20 : decode cX3_sum 20 = .ok (.iconst 0, 1) := by decide +kernel
theorem dX3_sum_21 : decode cX3_sum 21 = .ok (.istore 4, 2) := by decide +kernel
theorem dX3_sum_23 : decode cX3_sum 23 = .ok (.aload_n 0, 1) := by decide +kernel
theorem dX3_sum_24 : decode cX3_sum 24 = .ok (.getfield 29, 3) := by decide +kernel
theorem dX3_sum_27 : decode cX3_sum 27 = .ok (.ifCond .ne 51, 3) := by decide +kernel
theorem dX3_sum_30 : decode cX3_sum 30 = .ok (.aload_n 0, 1) := by decide +kernel
theorem dX3_sum_31 : decode cX3_sum 31 = .ok (.iload_n 1, 1) := by decide +kernel
theorem dX3_sum_32 : decode cX3_sum 32 = .ok (.invokevirtual 51, 3) := by decide +kernel
theorem dX3_sum_35 : decode cX3_sum 35 = .ok (.ifCond .eq 43, 3) := by decide +kernel
theorem dX3_sum_38 : decode cX3_sum 38 = .ok (.iload 4, 2) := by decide +kernel
theorem dX3_sum_40 : decode cX3_sum 40 = .ok (.aload_n 0, 1) := by decide +kernel
theorem dX3_sum_41 : decode cX3_sum 41 = .ok (.iload_n 1, 1) := by decide +kernel
theorem dX3_sum_42 : decode cX3_sum 42 = .ok (.invokevirtual 54, 3) := by decide +kernel
theorem dX3_sum_45 : decode cX3_sum 45 = .ok (.if_icmp .ge 33, 3) := by decide +kernel
theorem dX3_sum_48 : decode cX3_sum 48 = .ok (.ldc2_w 103, 3) := by decide +kernel
theorem dX3_sum_51 : decode cX3_sum 51 = .ok (.lload_n 2, 1) := by decide +kernel
theorem dX3_sum_52 : decode cX3_sum 52 = .ok (.lmul, 1) := by decide +kernel
theorem dX3_sum_53 : decode cX3_sum 53 = .ok (.aload_n 0, 1) := by decide +kernel
theorem dX3_sum_54 : decode cX3_sum 54 = .ok (.getfield 19, 3) := by decide +kernel
theorem dX3_sum_57 : decode cX3_sum 57 = .ok (.bipush 40, 2) := by decide +kernel
theorem dX3_sum_59 : decode cX3_sum 59 = .ok (.aload_n 0, 1) := by decide +kernel
theorem dX3_sum_60 : decode cX3_sum 60 = .ok (.getfield 7, 3) := by decide +kernel
theorem dX3_sum_63 : decode cX3_sum 63 = .ok (.iload_n 1, 1) := by decide +kernel
theorem dX3_sum_64 : decode cX3_sum 64 = .ok (.iaload, 1) := by decide +kernel
theorem dX3_sum_65 : decode cX3_sum 65 = .ok (.imul, 1) := by decide +kernel
theorem dX3_sum_66 : decode cX3_sum 66 = .ok (.iload 4, 2) := by decide +kernel
theorem dX3_sum_68 : decode cX3_sum 68 = .ok (.iadd, 1) := by decide +kernel
theorem dX3_sum_69 : decode cX3_sum 69 = .ok (.laload, 1) := by decide +kernel
theorem dX3_sum_70 : decode cX3_sum 70 = .ok (.ladd, 1) := by decide +kernel
theorem dX3_sum_71 : decode cX3_sum 71 = .ok (.lstore_n 2, 1) := by decide +kernel
theorem dX3_sum_72 : decode cX3_sum 72 = .ok (.iinc 4 1, 3) := by decide +kernel
theorem dX3_sum_75 : decode cX3_sum 75 = .ok (.goto (-52), 3) := by decide +kernel
theorem dX3_sum_78 : decode cX3_sum 78 = .ok (.aload_n 0, 1) := by decide +kernel
theorem dX3_sum_79 : decode cX3_sum 79 = .ok (.getfield 29, 3) := by decide +kernel
theorem dX3_sum_82 : decode cX3_sum 82 = .ok (.ifCond .le 7, 3) := by decide +kernel
theorem dX3_sum_85 : decode cX3_sum 85 = .ok (.lconst 0, 1) := by decide +kernel
theorem dX3_sum_86 : decode cX3_sum 86 = .ok (.goto 4, 3) := by decide +kernel
theorem dX3_sum_89 : decode cX3_sum 89 = .ok (.lload_n 2, 1) := by decide +kernel
theorem dX3_sum_90 : decode cX3_sum 90 = .ok (.lreturn, 1) := by decide +kernel
theorem dX3_count_0 : decode cX3_count 0 = .ok (.aload_n 0, 1) := by decide +kernel
theorem dX3_count_1 : decode cX3_count 1 = .ok (.iload_n 1, 1) := by decide +kernel
theorem dX3_count_2 : decode cX3_count 2 = .ok (.iconst 0, 1) := by decide +kernel
theorem dX3_count_3 : decode cX3_count 3 = .ok (.bipush 7, 2) := by decide +kernel
theorem dX3_count_5 : decode cX3_count 5 = .ok (.invokestatic 33, 3) := by decide +kernel
theorem dX3_count_8 : decode cX3_count 8 = .ok (.ifCond .eq 7, 3) := by decide +kernel
theorem dX3_count_11 : decode cX3_count 11 = .ok (.iconst 0, 1) := by decide +kernel
theorem dX3_count_12 : decode cX3_count 12 = .ok (.goto 4, 3) := by decide +kernel
theorem dX3_count_15 : decode cX3_count 15 = .ok (.iconst 1, 1) := by decide +kernel
theorem dX3_count_16 : decode cX3_count 16 = .ok (.putfield 29, 3) := by decide +kernel
theorem dX3_count_19 : decode cX3_count 19 = .ok (.iload_n 1, 1) := by decide +kernel
theorem dX3_count_20 : decode cX3_count 20 = .ok (.tableswitch 88 0 7 #[48, 53, 58, 63, 68, 73, 78, 83], 48) := by decide +kernel
theorem dX3_count_68 : decode cX3_count 68 = .ok (.aload_n 0, 1) := by decide +kernel
theorem dX3_count_69 : decode cX3_count 69 = .ok (.getfield 82, 3) := by decide +kernel
theorem dX3_count_72 : decode cX3_count 72 = .ok (.ireturn, 1) := by decide +kernel
theorem dX3_count_73 : decode cX3_count 73 = .ok (.aload_n 0, 1) := by decide +kernel
theorem dX3_count_74 : decode cX3_count 74 = .ok (.getfield 73, 3) := by decide +kernel
theorem dX3_count_77 : decode cX3_count 77 = .ok (.ireturn, 1) := by decide +kernel
theorem dX3_count_78 : decode cX3_count 78 = .ok (.aload_n 0, 1) := by decide +kernel
theorem dX3_count_79 : decode cX3_count 79 = .ok (.getfield 76, 3) := by decide +kernel
theorem dX3_count_82 : decode cX3_count 82 = .ok (.ireturn, 1) := by decide +kernel
theorem dX3_count_83 : decode cX3_count 83 = .ok (.aload_n 0, 1) := by decide +kernel
theorem dX3_count_84 : decode cX3_count 84 = .ok (.getfield 79, 3) := by decide +kernel
theorem dX3_count_87 : decode cX3_count 87 = .ok (.ireturn, 1) := by decide +kernel
theorem dX3_count_88 : decode cX3_count 88 = .ok (.aload_n 0, 1) := by decide +kernel
theorem dX3_count_89 : decode cX3_count 89 = .ok (.getfield 95, 3) := by decide +kernel
theorem dX3_count_92 : decode cX3_count 92 = .ok (.ireturn, 1) := by decide +kernel
theorem dX3_count_93 : decode cX3_count 93 = .ok (.aload_n 0, 1) := by decide +kernel
theorem dX3_count_94 : decode cX3_count 94 = .ok (.getfield 70, 3) := by decide +kernel
theorem dX3_count_97 : decode cX3_count 97 = .ok (.ireturn, 1) := by decide +kernel
theorem dX3_count_98 : decode cX3_count 98 = .ok (.aload_n 0, 1) := by decide +kernel
theorem dX3_count_99 : decode cX3_count 99 = .ok (.getfield 85, 3) := by decide +kernel
theorem dX3_count_102 : decode cX3_count 102 = .ok (.ireturn, 1) := by decide +kernel
theorem dX3_count_103 : decode cX3_count 103 = .ok (.aload_n 0, 1) := by decide +kernel
theorem dX3_count_104 : decode cX3_count 104 = .ok (.getfield 98, 3) := by decide +kernel
theorem dX3_count_107 : decode cX3_count 107 = .ok (.ireturn, 1) := by decide +kernel
theorem dX3_count_108 : decode cX3_count 108 = .ok (.iconst 0, 1) := by decide +kernel
theorem dX3_count_109 : decode cX3_count 109 = .ok (.ireturn, 1) := by decide +kernel
theorem dL_wind_0 : decode cL_wind 0 = .ok (.aload 4, 2) := by decide +kernel
theorem dL_wind_2 : decode cL_wind 2 = .ok (.iconst 0, 1) := by decide +kernel
theorem dL_wind_3 : decode cL_wind 3 = .ok (.aload_n 0, 1) := by decide +kernel
theorem dL_wind_4 : decode cL_wind 4 = .ok (.iload_n 1, 1) := by decide +kernel
theorem dL_wind_5 : decode cL_wind 5 = .ok (.iload_n 2, 1) := by decide +kernel
theorem dL_wind_6 : decode cL_wind 6 = .ok (.iload_n 3, 1) := by decide +kernel
theorem dL_wind_7 : decode cL_wind 7 = .ok (.invokevirtual 7, 3) := by decide +kernel
theorem dL_wind_10 : decode cL_wind 10 = .ok (.i2l, 1) := by decide +kernel
theorem dL_wind_11 : decode cL_wind 11 = .ok (.lastore, 1) := by decide +kernel
theorem dL_wind_12 : decode cL_wind 12 = .ok (.goto 7, 3) := by decide +kernel
theorem dL_wind_15 : decode cL_wind 15 = .ok (.astore 5, 2) := by decide +kernel
theorem dL_wind_17 : decode cL_wind 17 = .ok (.iconst 1, 1) := by decide +kernel
theorem dL_wind_18 : decode cL_wind 18 = .ok (.ireturn, 1) := by decide +kernel
theorem dL_wind_19 : decode cL_wind 19 = .ok (.iconst 0, 1) := by decide +kernel
theorem dL_wind_20 : decode cL_wind 20 = .ok (.ireturn, 1) := by decide +kernel
theorem dL_hang_0 : decode cL_hang 0 = .ok (.aload_n 3, 1) := by decide +kernel
theorem dL_hang_1 : decode cL_hang 1 = .ok (.iconst 0, 1) := by decide +kernel
theorem dL_hang_2 : decode cL_hang 2 = .ok (.aload_n 0, 1) := by decide +kernel
theorem dL_hang_3 : decode cL_hang 3 = .ok (.iload_n 1, 1) := by decide +kernel
theorem dL_hang_4 : decode cL_hang 4 = .ok (.iload_n 2, 1) := by decide +kernel
theorem dL_hang_5 : decode cL_hang 5 = .ok (.invokevirtual 15, 3) := by decide +kernel
theorem dL_hang_8 : decode cL_hang 8 = .ok (.i2l, 1) := by decide +kernel
theorem dL_hang_9 : decode cL_hang 9 = .ok (.lastore, 1) := by decide +kernel
theorem dL_hang_10 : decode cL_hang 10 = .ok (.goto 7, 3) := by decide +kernel
theorem dL_hang_13 : decode cL_hang 13 = .ok (.astore 4, 2) := by decide +kernel
theorem dL_hang_15 : decode cL_hang 15 = .ok (.iconst 1, 1) := by decide +kernel
theorem dL_hang_16 : decode cL_hang 16 = .ok (.ireturn, 1) := by decide +kernel
theorem dL_hang_17 : decode cL_hang 17 = .ok (.iconst 0, 1) := by decide +kernel
theorem dL_hang_18 : decode cL_hang 18 = .ok (.ireturn, 1) := by decide +kernel
theorem dL_twin_0 : decode cL_twin 0 = .ok (.aload_n 3, 1) := by decide +kernel
theorem dL_twin_1 : decode cL_twin 1 = .ok (.iconst 0, 1) := by decide +kernel
theorem dL_twin_2 : decode cL_twin 2 = .ok (.aload_n 0, 1) := by decide +kernel
theorem dL_twin_3 : decode cL_twin 3 = .ok (.iload_n 1, 1) := by decide +kernel
theorem dL_twin_4 : decode cL_twin 4 = .ok (.iload_n 2, 1) := by decide +kernel
theorem dL_twin_5 : decode cL_twin 5 = .ok (.invokevirtual 19, 3) := by decide +kernel
theorem dL_twin_8 : decode cL_twin 8 = .ok (.i2l, 1) := by decide +kernel
theorem dL_twin_9 : decode cL_twin 9 = .ok (.lastore, 1) := by decide +kernel
theorem dL_twin_10 : decode cL_twin 10 = .ok (.goto 11, 3) := by decide +kernel
theorem dL_twin_13 : decode cL_twin 13 = .ok (.astore 4, 2) := by decide +kernel
theorem dL_twin_15 : decode cL_twin 15 = .ok (.iconst 1, 1) := by decide +kernel
theorem dL_twin_16 : decode cL_twin 16 = .ok (.ireturn, 1) := by decide +kernel
theorem dL_twin_17 : decode cL_twin 17 = .ok (.astore 4, 2) := by decide +kernel
theorem dL_twin_19 : decode cL_twin 19 = .ok (.iconst 2, 1) := by decide +kernel
theorem dL_twin_20 : decode cL_twin 20 = .ok (.ireturn, 1) := by decide +kernel
theorem dL_twin_21 : decode cL_twin 21 = .ok (.iconst 0, 1) := by decide +kernel
theorem dL_twin_22 : decode cL_twin 22 = .ok (.ireturn, 1) := by decide +kernel
theorem dL_mark_0 : decode cL_mark 0 = .ok (.aload_n 0, 1) := by decide +kernel
theorem dL_mark_1 : decode cL_mark 1 = .ok (.iload_n 1, 1) := by decide +kernel
theorem dL_mark_2 : decode cL_mark 2 = .ok (.iload_n 2, 1) := by decide +kernel
theorem dL_mark_3 : decode cL_mark 3 = .ok (.lload_n 3, 1) := by decide +kernel
theorem dL_mark_4 : decode cL_mark 4 = .ok (.invokevirtual 24, 3) := by decide +kernel
theorem dL_mark_7 : decode cL_mark 7 = .ok (.goto 15, 3) := by decide +kernel
theorem dL_mark_10 : decode cL_mark 10 = .ok (.astore 5, 2) := by decide +kernel
theorem dL_mark_12 : decode cL_mark 12 = .ok (.iconst 1, 1) := by decide +kernel
theorem dL_mark_13 : decode cL_mark 13 = .ok (.ireturn, 1) := by decide +kernel
theorem dL_mark_14 : decode cL_mark 14 = .ok (.astore 5, 2) := by decide +kernel
theorem dL_mark_16 : decode cL_mark 16 = .ok (.iconst 2, 1) := by decide +kernel
theorem dL_mark_17 : decode cL_mark 17 = .ok (.ireturn, 1) := by decide +kernel
theorem dL_mark_18 : decode cL_mark 18 = .ok (.astore 5, 2) := by decide +kernel
theorem dL_mark_20 : decode cL_mark 20 = .ok (.iconst 3, 1) := by decide +kernel
theorem dL_mark_21 : decode cL_mark 21 = .ok (.ireturn, 1) := by decide +kernel
theorem dL_mark_22 : decode cL_mark 22 = .ok (.iconst 0, 1) := by decide +kernel
theorem dL_mark_23 : decode cL_mark 23 = .ok (.ireturn, 1) := by decide +kernel
theorem dL_paste_0 : decode cL_paste 0 = .ok (.aload 5, 2) := by decide +kernel
theorem dL_paste_2 : decode cL_paste 2 = .ok (.iconst 0, 1) := by decide +kernel
theorem dL_paste_3 : decode cL_paste 3 = .ok (.aload_n 0, 1) := by decide +kernel
theorem dL_paste_4 : decode cL_paste 4 = .ok (.iload_n 1, 1) := by decide +kernel
theorem dL_paste_5 : decode cL_paste 5 = .ok (.iload_n 2, 1) := by decide +kernel
theorem dL_paste_6 : decode cL_paste 6 = .ok (.iload_n 3, 1) := by decide +kernel
theorem dL_paste_7 : decode cL_paste 7 = .ok (.iload 4, 2) := by decide +kernel
theorem dL_paste_9 : decode cL_paste 9 = .ok (.invokevirtual 30, 3) := by decide +kernel
theorem dL_paste_12 : decode cL_paste 12 = .ok (.ifCond .eq 7, 3) := by decide +kernel
theorem dL_paste_15 : decode cL_paste 15 = .ok (.lconst 1, 1) := by decide +kernel
theorem dL_paste_16 : decode cL_paste 16 = .ok (.goto 4, 3) := by decide +kernel
theorem dL_paste_19 : decode cL_paste 19 = .ok (.lconst 0, 1) := by decide +kernel
theorem dL_paste_20 : decode cL_paste 20 = .ok (.lastore, 1) := by decide +kernel
theorem dL_paste_21 : decode cL_paste 21 = .ok (.goto 15, 3) := by decide +kernel
theorem dL_paste_24 : decode cL_paste 24 = .ok (.astore 6, 2) := by decide +kernel
theorem dL_paste_26 : decode cL_paste 26 = .ok (.iconst 1, 1) := by decide +kernel
theorem dL_paste_27 : decode cL_paste 27 = .ok (.ireturn, 1) := by decide +kernel
theorem dL_paste_28 : decode cL_paste 28 = .ok (.astore 6, 2) := by decide +kernel
theorem dL_paste_30 : decode cL_paste 30 = .ok (.iconst 2, 1) := by decide +kernel
theorem dL_paste_31 : decode cL_paste 31 = .ok (.ireturn, 1) := by decide +kernel
theorem dL_paste_32 : decode cL_paste 32 = .ok (.astore 6, 2) := by decide +kernel
theorem dL_paste_34 : decode cL_paste 34 = .ok (.iconst 3, 1) := by decide +kernel
theorem dL_paste_35 : decode cL_paste 35 = .ok (.ireturn, 1) := by decide +kernel
theorem dL_paste_36 : decode cL_paste 36 = .ok (.iconst 0, 1) := by decide +kernel
theorem dL_paste_37 : decode cL_paste 37 = .ok (.ireturn, 1) := by decide +kernel
theorem dL_pull_0 : decode cL_pull 0 = .ok (.aload_n 3, 1) := by decide +kernel
theorem dL_pull_1 : decode cL_pull 1 = .ok (.iconst 0, 1) := by decide +kernel
theorem dL_pull_2 : decode cL_pull 2 = .ok (.aload_n 0, 1) := by decide +kernel
theorem dL_pull_3 : decode cL_pull 3 = .ok (.iload_n 1, 1) := by decide +kernel
theorem dL_pull_4 : decode cL_pull 4 = .ok (.iload_n 2, 1) := by decide +kernel
theorem dL_pull_5 : decode cL_pull 5 = .ok (.invokevirtual 34, 3) := by decide +kernel
theorem dL_pull_8 : decode cL_pull 8 = .ok (.ifCond .eq 7, 3) := by decide +kernel
theorem dL_pull_11 : decode cL_pull 11 = .ok (.lconst 1, 1) := by decide +kernel
theorem dL_pull_12 : decode cL_pull 12 = .ok (.goto 4, 3) := by decide +kernel
theorem dL_pull_15 : decode cL_pull 15 = .ok (.lconst 0, 1) := by decide +kernel
theorem dL_pull_16 : decode cL_pull 16 = .ok (.lastore, 1) := by decide +kernel
theorem dL_pull_17 : decode cL_pull 17 = .ok (.goto 15, 3) := by decide +kernel
theorem dL_pull_20 : decode cL_pull 20 = .ok (.astore 4, 2) := by decide +kernel
theorem dL_pull_22 : decode cL_pull 22 = .ok (.iconst 1, 1) := by decide +kernel
theorem dL_pull_23 : decode cL_pull 23 = .ok (.ireturn, 1) := by decide +kernel
theorem dL_pull_24 : decode cL_pull 24 = .ok (.astore 4, 2) := by decide +kernel
theorem dL_pull_26 : decode cL_pull 26 = .ok (.iconst 2, 1) := by decide +kernel
theorem dL_pull_27 : decode cL_pull 27 = .ok (.ireturn, 1) := by decide +kernel
theorem dL_pull_28 : decode cL_pull 28 = .ok (.astore 4, 2) := by decide +kernel
theorem dL_pull_30 : decode cL_pull 30 = .ok (.iconst 3, 1) := by decide +kernel
theorem dL_pull_31 : decode cL_pull 31 = .ok (.ireturn, 1) := by decide +kernel
theorem dL_pull_32 : decode cL_pull 32 = .ok (.iconst 0, 1) := by decide +kernel
theorem dL_pull_33 : decode cL_pull 33 = .ok (.ireturn, 1) := by decide +kernel
theorem dL_splice_0 : decode cL_splice 0 = .ok (.aload 6, 2) := by decide +kernel
theorem dL_splice_2 : decode cL_splice 2 = .ok (.iconst 0, 1) := by decide +kernel
theorem dL_splice_3 : decode cL_splice 3 = .ok (.aload_n 0, 1) := by decide +kernel
theorem dL_splice_4 : decode cL_splice 4 = .ok (.iload_n 1, 1) := by decide +kernel
theorem dL_splice_5 : decode cL_splice 5 = .ok (.iload_n 2, 1) := by decide +kernel
theorem dL_splice_6 : decode cL_splice 6 = .ok (.iload_n 3, 1) := by decide +kernel
theorem dL_splice_7 : decode cL_splice 7 = .ok (.iload 4, 2) := by decide +kernel
theorem dL_splice_9 : decode cL_splice 9 = .ok (.iload 5, 2) := by decide +kernel
theorem dL_splice_11 : decode cL_splice 11 = .ok (.invokevirtual 38, 3) := by decide +kernel
theorem dL_splice_14 : decode cL_splice 14 = .ok (.i2l, 1) := by decide +kernel
theorem dL_splice_15 : decode cL_splice 15 = .ok (.lastore, 1) := by decide +kernel
theorem dL_splice_16 : decode cL_splice 16 = .ok (.goto 11, 3) := by decide +kernel
theorem dL_splice_19 : decode cL_splice 19 = .ok (.astore 7, 2) := by decide +kernel
theorem dL_splice_21 : decode cL_splice 21 = .ok (.iconst 1, 1) := by decide +kernel
theorem dL_splice_22 : decode cL_splice 22 = .ok (.ireturn, 1) := by decide +kernel
theorem dL_splice_23 : decode cL_splice 23 = .ok (.astore 7, 2) := by decide +kernel
theorem dL_splice_25 : decode cL_splice 25 = .ok (.iconst 2, 1) := by decide +kernel
theorem dL_splice_26 : decode cL_splice 26 = .ok (.ireturn, 1) := by decide +kernel
theorem dL_splice_27 : decode cL_splice 27 = .ok (.iconst 0, 1) := by decide +kernel
theorem dL_splice_28 : decode cL_splice 28 = .ok (.ireturn, 1) := by decide +kernel
theorem dL_step_0 : decode cL_step 0 = .ok (.aload 6, 2) := by decide +kernel
theorem dL_step_2 : decode cL_step 2 = .ok (.iconst 0, 1) := by decide +kernel
theorem dL_step_3 : decode cL_step 3 = .ok (.aload_n 0, 1) := by decide +kernel
theorem dL_step_4 : decode cL_step 4 = .ok (.iload_n 1, 1) := by decide +kernel
theorem dL_step_5 : decode cL_step 5 = .ok (.iload_n 2, 1) := by decide +kernel
theorem dL_step_6 : decode cL_step 6 = .ok (.iload_n 3, 1) := by decide +kernel
theorem dL_step_7 : decode cL_step 7 = .ok (.iload 4, 2) := by decide +kernel
theorem dL_step_9 : decode cL_step 9 = .ok (.iload 5, 2) := by decide +kernel
theorem dL_step_11 : decode cL_step 11 = .ok (.invokevirtual 42, 3) := by decide +kernel
theorem dL_step_14 : decode cL_step 14 = .ok (.i2l, 1) := by decide +kernel
theorem dL_step_15 : decode cL_step 15 = .ok (.lastore, 1) := by decide +kernel
theorem dL_step_16 : decode cL_step 16 = .ok (.goto 11, 3) := by decide +kernel
theorem dL_step_19 : decode cL_step 19 = .ok (.astore 7, 2) := by decide +kernel
theorem dL_step_21 : decode cL_step 21 = .ok (.iconst 1, 1) := by decide +kernel
theorem dL_step_22 : decode cL_step 22 = .ok (.ireturn, 1) := by decide +kernel
theorem dL_step_23 : decode cL_step 23 = .ok (.astore 7, 2) := by decide +kernel
theorem dL_step_25 : decode cL_step 25 = .ok (.iconst 2, 1) := by decide +kernel
theorem dL_step_26 : decode cL_step 26 = .ok (.ireturn, 1) := by decide +kernel
theorem dL_step_27 : decode cL_step 27 = .ok (.iconst 0, 1) := by decide +kernel
theorem dL_step_28 : decode cL_step 28 = .ok (.ireturn, 1) := by decide +kernel
theorem dL_play_0 : decode cL_play 0 = .ok (.aload_n 2, 1) := by decide +kernel
theorem dL_play_1 : decode cL_play 1 = .ok (.iconst 0, 1) := by decide +kernel
theorem dL_play_2 : decode cL_play 2 = .ok (.aload_n 0, 1) := by decide +kernel
theorem dL_play_3 : decode cL_play 3 = .ok (.iload_n 1, 1) := by decide +kernel
theorem dL_play_4 : decode cL_play 4 = .ok (.invokevirtual 45, 3) := by decide +kernel
theorem dL_play_7 : decode cL_play 7 = .ok (.i2l, 1) := by decide +kernel
theorem dL_play_8 : decode cL_play 8 = .ok (.lastore, 1) := by decide +kernel
theorem dL_play_9 : decode cL_play 9 = .ok (.goto 6, 3) := by decide +kernel
theorem dL_play_12 : decode cL_play 12 = .ok (.astore_n 3, 1) := by decide +kernel
theorem dL_play_13 : decode cL_play 13 = .ok (.iconst 1, 1) := by decide +kernel
theorem dL_play_14 : decode cL_play 14 = .ok (.ireturn, 1) := by decide +kernel
theorem dL_play_15 : decode cL_play 15 = .ok (.iconst 0, 1) := by decide +kernel
theorem dL_play_16 : decode cL_play 16 = .ok (.ireturn, 1) := by decide +kernel
theorem dL_grind_0 : decode cL_grind 0 = .ok (.aload_n 1, 1) := by decide +kernel
theorem dL_grind_1 : decode cL_grind 1 = .ok (.iconst 0, 1) := by decide +kernel
theorem dL_grind_2 : decode cL_grind 2 = .ok (.aload_n 0, 1) := by decide +kernel
theorem dL_grind_3 : decode cL_grind 3 = .ok (.invokevirtual 49, 3) := by decide +kernel
theorem dL_grind_6 : decode cL_grind 6 = .ok (.i2l, 1) := by decide +kernel
theorem dL_grind_7 : decode cL_grind 7 = .ok (.lastore, 1) := by decide +kernel
theorem dL_grind_8 : decode cL_grind 8 = .ok (.goto 6, 3) := by decide +kernel
theorem dL_grind_11 : decode cL_grind 11 = .ok (.astore_n 2, 1) := by decide +kernel
theorem dL_grind_12 : decode cL_grind 12 = .ok (.iconst 1, 1) := by decide +kernel
theorem dL_grind_13 : decode cL_grind 13 = .ok (.ireturn, 1) := by decide +kernel
theorem dL_grind_14 : decode cL_grind 14 = .ok (.iconst 0, 1) := by decide +kernel
theorem dL_grind_15 : decode cL_grind 15 = .ok (.ireturn, 1) := by decide +kernel
theorem dL_frame_0 : decode cL_frame 0 = .ok (.aload_n 3, 1) := by decide +kernel
theorem dL_frame_1 : decode cL_frame 1 = .ok (.iconst 0, 1) := by decide +kernel
theorem dL_frame_2 : decode cL_frame 2 = .ok (.aload_n 0, 1) := by decide +kernel
theorem dL_frame_3 : decode cL_frame 3 = .ok (.iload_n 1, 1) := by decide +kernel
theorem dL_frame_4 : decode cL_frame 4 = .ok (.iload_n 2, 1) := by decide +kernel
theorem dL_frame_5 : decode cL_frame 5 = .ok (.invokevirtual 53, 3) := by decide +kernel
theorem dL_frame_8 : decode cL_frame 8 = .ok (.lastore, 1) := by decide +kernel
theorem dL_frame_9 : decode cL_frame 9 = .ok (.goto 15, 3) := by decide +kernel
theorem dL_frame_12 : decode cL_frame 12 = .ok (.astore 4, 2) := by decide +kernel
theorem dL_frame_14 : decode cL_frame 14 = .ok (.iconst 1, 1) := by decide +kernel
theorem dL_frame_15 : decode cL_frame 15 = .ok (.ireturn, 1) := by decide +kernel
theorem dL_frame_16 : decode cL_frame 16 = .ok (.astore 4, 2) := by decide +kernel
theorem dL_frame_18 : decode cL_frame 18 = .ok (.iconst 2, 1) := by decide +kernel
theorem dL_frame_19 : decode cL_frame 19 = .ok (.ireturn, 1) := by decide +kernel
theorem dL_frame_20 : decode cL_frame 20 = .ok (.astore 4, 2) := by decide +kernel
theorem dL_frame_22 : decode cL_frame 22 = .ok (.iconst 3, 1) := by decide +kernel
theorem dL_frame_23 : decode cL_frame 23 = .ok (.ireturn, 1) := by decide +kernel
theorem dL_frame_24 : decode cL_frame 24 = .ok (.iconst 0, 1) := by decide +kernel
theorem dL_frame_25 : decode cL_frame 25 = .ok (.ireturn, 1) := by decide +kernel
theorem dL_look_0 : decode cL_look 0 = .ok (.aload_n 3, 1) := by decide +kernel
theorem dL_look_1 : decode cL_look 1 = .ok (.iconst 0, 1) := by decide +kernel
theorem dL_look_2 : decode cL_look 2 = .ok (.aload_n 0, 1) := by decide +kernel
theorem dL_look_3 : decode cL_look 3 = .ok (.iload_n 1, 1) := by decide +kernel
theorem dL_look_4 : decode cL_look 4 = .ok (.iload_n 2, 1) := by decide +kernel
theorem dL_look_5 : decode cL_look 5 = .ok (.invokevirtual 57, 3) := by decide +kernel
theorem dL_look_8 : decode cL_look 8 = .ok (.i2l, 1) := by decide +kernel
theorem dL_look_9 : decode cL_look 9 = .ok (.lastore, 1) := by decide +kernel
theorem dL_look_10 : decode cL_look 10 = .ok (.goto 7, 3) := by decide +kernel
theorem dL_look_13 : decode cL_look 13 = .ok (.astore 4, 2) := by decide +kernel
theorem dL_look_15 : decode cL_look 15 = .ok (.iconst 1, 1) := by decide +kernel
theorem dL_look_16 : decode cL_look 16 = .ok (.ireturn, 1) := by decide +kernel
theorem dL_look_17 : decode cL_look 17 = .ok (.iconst 0, 1) := by decide +kernel
theorem dL_look_18 : decode cL_look 18 = .ok (.ireturn, 1) := by decide +kernel
theorem dL_sum_0 : decode cL_sum 0 = .ok (.aload_n 2, 1) := by decide +kernel
theorem dL_sum_1 : decode cL_sum 1 = .ok (.iconst 0, 1) := by decide +kernel
theorem dL_sum_2 : decode cL_sum 2 = .ok (.aload_n 0, 1) := by decide +kernel
theorem dL_sum_3 : decode cL_sum 3 = .ok (.iload_n 1, 1) := by decide +kernel
theorem dL_sum_4 : decode cL_sum 4 = .ok (.invokevirtual 60, 3) := by decide +kernel
theorem dL_sum_7 : decode cL_sum 7 = .ok (.lastore, 1) := by decide +kernel
theorem dL_sum_8 : decode cL_sum 8 = .ok (.goto 6, 3) := by decide +kernel
theorem dL_sum_11 : decode cL_sum 11 = .ok (.astore_n 3, 1) := by decide +kernel
theorem dL_sum_12 : decode cL_sum 12 = .ok (.iconst 1, 1) := by decide +kernel
theorem dL_sum_13 : decode cL_sum 13 = .ok (.ireturn, 1) := by decide +kernel
theorem dL_sum_14 : decode cL_sum 14 = .ok (.iconst 0, 1) := by decide +kernel
theorem dL_sum_15 : decode cL_sum 15 = .ok (.ireturn, 1) := by decide +kernel
theorem dL_count_0 : decode cL_count 0 = .ok (.aload_n 2, 1) := by decide +kernel
theorem dL_count_1 : decode cL_count 1 = .ok (.iconst 0, 1) := by decide +kernel
theorem dL_count_2 : decode cL_count 2 = .ok (.aload_n 0, 1) := by decide +kernel
theorem dL_count_3 : decode cL_count 3 = .ok (.iload_n 1, 1) := by decide +kernel
theorem dL_count_4 : decode cL_count 4 = .ok (.invokevirtual 64, 3) := by decide +kernel
theorem dL_count_7 : decode cL_count 7 = .ok (.i2l, 1) := by decide +kernel
theorem dL_count_8 : decode cL_count 8 = .ok (.lastore, 1) := by decide +kernel
theorem dL_count_9 : decode cL_count 9 = .ok (.goto 6, 3) := by decide +kernel
theorem dL_count_12 : decode cL_count 12 = .ok (.astore_n 3, 1) := by decide +kernel
theorem dL_count_13 : decode cL_count 13 = .ok (.iconst 1, 1) := by decide +kernel
theorem dL_count_14 : decode cL_count 14 = .ok (.ireturn, 1) := by decide +kernel
theorem dL_count_15 : decode cL_count 15 = .ok (.iconst 0, 1) := by decide +kernel
theorem dL_count_16 : decode cL_count 16 = .ok (.ireturn, 1) := by decide +kernel
theorem dL_law_0 : decode cL_law 0 = .ok (.new 8, 3) := by decide +kernel
theorem dL_law_3 : decode cL_law 3 = .ok (.dup, 1) := by decide +kernel
theorem dL_law_4 : decode cL_law 4 = .ok (.invokespecial 68, 3) := by decide +kernel
theorem dL_law_7 : decode cL_law 7 = .ok (.astore_n 1, 1) := by decide +kernel
theorem dL_law_8 : decode cL_law 8 = .ok (.new 69, 3) := by decide +kernel
theorem dL_law_11 : decode cL_law 11 = .ok (.dup, 1) := by decide +kernel
theorem dL_law_12 : decode cL_law 12 = .ok (.invokespecial 71, 3) := by decide +kernel
theorem dL_law_15 : decode cL_law 15 = .ok (.astore_n 2, 1) := by decide +kernel
theorem dL_law_16 : decode cL_law 16 = .ok (.iconst 1, 1) := by decide +kernel
theorem dL_law_17 : decode cL_law 17 = .ok (.newarray .long, 2) := by decide +kernel
theorem dL_law_19 : decode cL_law 19 = .ok (.astore_n 3, 1) := by decide +kernel
theorem dL_law_20 : decode cL_law 20 = .ok (.iconst 0, 1) := by decide +kernel
theorem dL_law_21 : decode cL_law 21 = .ok (.istore 4, 2) := by decide +kernel
theorem dL_law_23 : decode cL_law 23 = .ok (.iload 4, 2) := by decide +kernel
theorem dL_law_25 : decode cL_law 25 = .ok (.aload_n 0, 1) := by decide +kernel
theorem dL_law_26 : decode cL_law 26 = .ok (.arraylength, 1) := by decide +kernel
theorem dL_law_27 : decode cL_law 27 = .ok (.bipush 6, 2) := by decide +kernel
theorem dL_law_29 : decode cL_law 29 = .ok (.isub, 1) := by decide +kernel
theorem dL_law_30 : decode cL_law 30 = .ok (.if_icmp .gt 1173, 3) := by decide +kernel
theorem dL_law_33 : decode cL_law 33 = .ok (.aload_n 0, 1) := by decide +kernel
theorem dL_law_34 : decode cL_law 34 = .ok (.iload 4, 2) := by decide +kernel
theorem dL_law_36 : decode cL_law 36 = .ok (.iaload, 1) := by decide +kernel
theorem dL_law_37 : decode cL_law 37 = .ok (.bipush 15, 2) := by decide +kernel
theorem dL_law_39 : decode cL_law 39 = .ok (.iand, 1) := by decide +kernel
theorem dL_law_40 : decode cL_law 40 = .ok (.tableswitch 1157 0 14 #[76, 156, 224, 292, 384, 499, 574, 678, 782, 854, 867, 911, 978, 1046, 1101], 76) := by decide +kernel
theorem dL_law_116 : decode cL_law 116 = .ok (.aload_n 1, 1) := by decide +kernel
theorem dL_law_117 : decode cL_law 117 = .ok (.aload_n 0, 1) := by decide +kernel
theorem dL_law_118 : decode cL_law 118 = .ok (.iload 4, 2) := by decide +kernel
theorem dL_law_120 : decode cL_law 120 = .ok (.iconst 1, 1) := by decide +kernel
theorem dL_law_121 : decode cL_law 121 = .ok (.iadd, 1) := by decide +kernel
theorem dL_law_122 : decode cL_law 122 = .ok (.iaload, 1) := by decide +kernel
theorem dL_law_123 : decode cL_law 123 = .ok (.aload_n 0, 1) := by decide +kernel
theorem dL_law_124 : decode cL_law 124 = .ok (.iload 4, 2) := by decide +kernel
theorem dL_law_126 : decode cL_law 126 = .ok (.iconst 2, 1) := by decide +kernel
theorem dL_law_127 : decode cL_law 127 = .ok (.iadd, 1) := by decide +kernel
theorem dL_law_128 : decode cL_law 128 = .ok (.iaload, 1) := by decide +kernel
theorem dL_law_129 : decode cL_law 129 = .ok (.aload_n 0, 1) := by decide +kernel
theorem dL_law_130 : decode cL_law 130 = .ok (.iload 4, 2) := by decide +kernel
theorem dL_law_132 : decode cL_law 132 = .ok (.iconst 3, 1) := by decide +kernel
theorem dL_law_133 : decode cL_law 133 = .ok (.iadd, 1) := by decide +kernel
theorem dL_law_134 : decode cL_law 134 = .ok (.iaload, 1) := by decide +kernel
theorem dL_law_135 : decode cL_law 135 = .ok (.aload_n 3, 1) := by decide +kernel
theorem dL_law_136 : decode cL_law 136 = .ok (.invokestatic 72, 3) := by decide +kernel
theorem dL_law_139 : decode cL_law 139 = .ok (.istore 5, 2) := by decide +kernel
theorem dL_law_141 : decode cL_law 141 = .ok (.aload_n 2, 1) := by decide +kernel
theorem dL_law_142 : decode cL_law 142 = .ok (.aload_n 0, 1) := by decide +kernel
theorem dL_law_143 : decode cL_law 143 = .ok (.iload 4, 2) := by decide +kernel
theorem dL_law_145 : decode cL_law 145 = .ok (.iconst 1, 1) := by decide +kernel
theorem dL_law_146 : decode cL_law 146 = .ok (.iadd, 1) := by decide +kernel
theorem dL_law_147 : decode cL_law 147 = .ok (.iaload, 1) := by decide +kernel
theorem dL_law_148 : decode cL_law 148 = .ok (.aload_n 0, 1) := by decide +kernel
theorem dL_law_149 : decode cL_law 149 = .ok (.iload 4, 2) := by decide +kernel
theorem dL_law_151 : decode cL_law 151 = .ok (.iconst 2, 1) := by decide +kernel
theorem dL_law_152 : decode cL_law 152 = .ok (.iadd, 1) := by decide +kernel
theorem dL_law_153 : decode cL_law 153 = .ok (.iaload, 1) := by decide +kernel
theorem dL_law_154 : decode cL_law 154 = .ok (.aload_n 0, 1) := by decide +kernel
theorem dL_law_155 : decode cL_law 155 = .ok (.iload 4, 2) := by decide +kernel
theorem dL_law_157 : decode cL_law 157 = .ok (.iconst 3, 1) := by decide +kernel
theorem dL_law_158 : decode cL_law 158 = .ok (.iadd, 1) := by decide +kernel
theorem dL_law_159 : decode cL_law 159 = .ok (.iaload, 1) := by decide +kernel
theorem dL_law_160 : decode cL_law 160 = .ok (.invokevirtual 77, 3) := by decide +kernel
theorem dL_law_163 : decode cL_law 163 = .ok (.istore 6, 2) := by decide +kernel
theorem dL_law_165 : decode cL_law 165 = .ok (.aload_n 2, 1) := by decide +kernel
theorem dL_law_166 : decode cL_law 166 = .ok (.invokevirtual 78, 3) := by decide +kernel
theorem dL_law_169 : decode cL_law 169 = .ok (.iload 5, 2) := by decide +kernel
theorem dL_law_171 : decode cL_law 171 = .ok (.if_icmp .eq 5, 3) := by decide +kernel
theorem dL_law_174 : decode cL_law 174 = .ok (.iconst 0, 1) := by decide +kernel
theorem dL_law_175 : decode cL_law 175 = .ok (.ireturn, 1) := by decide +kernel
theorem dL_law_176 : decode cL_law 176 = .ok (.iload 5, 2) := by decide +kernel
theorem dL_law_178 : decode cL_law 178 = .ok (.ifCond .ne 15, 3) := by decide +kernel
theorem dL_law_181 : decode cL_law 181 = .ok (.aload_n 3, 1) := by decide +kernel
theorem dL_law_182 : decode cL_law 182 = .ok (.iconst 0, 1) := by decide +kernel
theorem dL_law_183 : decode cL_law 183 = .ok (.laload, 1) := by decide +kernel
theorem dL_law_184 : decode cL_law 184 = .ok (.iload 6, 2) := by decide +kernel
theorem dL_law_186 : decode cL_law 186 = .ok (.i2l, 1) := by decide +kernel
theorem dL_law_187 : decode cL_law 187 = .ok (.lcmp, 1) := by decide +kernel
theorem dL_law_188 : decode cL_law 188 = .ok (.ifCond .eq 5, 3) := by decide +kernel
theorem dL_law_191 : decode cL_law 191 = .ok (.iconst 0, 1) := by decide +kernel
theorem dL_law_192 : decode cL_law 192 = .ok (.ireturn, 1) := by decide +kernel
theorem dL_law_193 : decode cL_law 193 = .ok (.goto 1004, 3) := by decide +kernel
theorem dL_law_196 : decode cL_law 196 = .ok (.aload_n 1, 1) := by decide +kernel
theorem dL_law_197 : decode cL_law 197 = .ok (.aload_n 0, 1) := by decide +kernel
theorem dL_law_198 : decode cL_law 198 = .ok (.iload 4, 2) := by decide +kernel
theorem dL_law_200 : decode cL_law 200 = .ok (.iconst 1, 1) := by decide +kernel
theorem dL_law_201 : decode cL_law 201 = .ok (.iadd, 1) := by decide +kernel
theorem dL_law_202 : decode cL_law 202 = .ok (.iaload, 1) := by decide +kernel
theorem dL_law_203 : decode cL_law 203 = .ok (.aload_n 0, 1) := by decide +kernel
theorem dL_law_204 : decode cL_law 204 = .ok (.iload 4, 2) := by decide +kernel
theorem dL_law_206 : decode cL_law 206 = .ok (.iconst 2, 1) := by decide +kernel
theorem dL_law_207 : decode cL_law 207 = .ok (.iadd, 1) := by decide +kernel
theorem dL_law_208 : decode cL_law 208 = .ok (.iaload, 1) := by decide +kernel
theorem dL_law_209 : decode cL_law 209 = .ok (.aload_n 3, 1) := by decide +kernel
theorem dL_law_210 : decode cL_law 210 = .ok (.invokestatic 81, 3) := by decide +kernel
theorem dL_law_213 : decode cL_law 213 = .ok (.istore 5, 2) := by decide +kernel
theorem dL_law_215 : decode cL_law 215 = .ok (.aload_n 2, 1) := by decide +kernel
theorem dL_law_216 : decode cL_law 216 = .ok (.aload_n 0, 1) := by decide +kernel
theorem dL_law_217 : decode cL_law 217 = .ok (.iload 4, 2) := by decide +kernel
theorem dL_law_219 : decode cL_law 219 = .ok (.iconst 1, 1) := by decide +kernel
theorem dL_law_220 : decode cL_law 220 = .ok (.iadd, 1) := by decide +kernel
theorem dL_law_221 : decode cL_law 221 = .ok (.iaload, 1) := by decide +kernel
theorem dL_law_222 : decode cL_law 222 = .ok (.aload_n 0, 1) := by decide +kernel
theorem dL_law_223 : decode cL_law 223 = .ok (.iload 4, 2) := by decide +kernel
theorem dL_law_225 : decode cL_law 225 = .ok (.iconst 2, 1) := by decide +kernel
theorem dL_law_226 : decode cL_law 226 = .ok (.iadd, 1) := by decide +kernel
theorem dL_law_227 : decode cL_law 227 = .ok (.iaload, 1) := by decide +kernel
theorem dL_law_228 : decode cL_law 228 = .ok (.invokevirtual 84, 3) := by decide +kernel
