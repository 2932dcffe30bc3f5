theorem dX2_init_0 : decode cX2_init 0 = .ok (.aload_n 0, 1) := by decide +kernel
theorem dX2_init_1 : decode cX2_init 1 = .ok (.invokespecial 3, 3) := by decide +kernel
theorem dX2_init_4 : decode cX2_init 4 = .ok (.aload_n 0, 1) := by decide +kernel
theorem dX2_init_5 : decode cX2_init 5 = .ok (.aload_n 1, 1) := by decide +kernel
theorem dX2_init_6 : decode cX2_init 6 = .ok (.putfield 9, 3) := by decide +kernel
theorem dX2_init_9 : decode cX2_init 9 = .ok (.return_, 1) := by decide +kernel
theorem dX2_step_0 : decode cX2_step 0 = .ok (.aload_n 0, 1) := by decide +kernel
theorem dX2_step_1 : decode cX2_step 1 = .ok (.aload_n 1, 1) := by decide +kernel
theorem dX2_step_2 : decode cX2_step 2 = .ok (.invokestatic 15, 3) := by decide +kernel
theorem dX2_step_5 : decode cX2_step 5 = .ok (.putfield 19, 3) := by decide +kernel
theorem dX2_step_8 : decode cX2_step 8 = .ok (.aload_n 0, 1) := by decide +kernel
theorem dX2_step_9 : decode cX2_step 9 = .ok (.iconst 0, 1) := by decide +kernel
theorem dX2_step_10 : decode cX2_step 10 = .ok (.putfield 23, 3) := by decide +kernel
theorem dX2_step_13 : decode cX2_step 13 = .ok (.aload_n 0, 1) := by decide +kernel
theorem dX2_step_14 : decode cX2_step 14 = .ok (.aload_n 1, 1) := by decide +kernel
theorem dX2_step_15 : decode cX2_step 15 = .ok (.getfield 26, 3) := by decide +kernel
theorem dX2_step_18 : decode cX2_step 18 = .ok (.iconst 1, 1) := by decide +kernel
theorem dX2_step_19 : decode cX2_step 19 = .ok (.iadd, 1) := by decide +kernel
theorem dX2_step_20 : decode cX2_step 20 = .ok (.putfield 31, 3) := by decide +kernel
theorem dX2_step_23 : decode cX2_step 23 = .ok (.aload_n 0, 1) := by decide +kernel
theorem dX2_step_24 : decode cX2_step 24 = .ok (.aload_n 1, 1) := by decide +kernel
theorem dX2_step_25 : decode cX2_step 25 = .ok (.getfield 34, 3) := by decide +kernel
theorem dX2_step_28 : decode cX2_step 28 = .ok (.bipush 8, 2) := by decide +kernel
theorem dX2_step_30 : decode cX2_step 30 = .ok (.iaload, 1) := by decide +kernel
theorem dX2_step_31 : decode cX2_step 31 = .ok (.iconst 1, 1) := by decide +kernel
theorem dX2_step_32 : decode cX2_step 32 = .ok (.iadd, 1) := by decide +kernel
theorem dX2_step_33 : decode cX2_step 33 = .ok (.putfield 38, 3) := by decide +kernel
theorem dX2_step_36 : decode cX2_step 36 = .ok (.aload_n 0, 1) := by decide +kernel
theorem dX2_step_37 : decode cX2_step 37 = .ok (.getfield 19, 3) := by decide +kernel
theorem dX2_step_40 : decode cX2_step 40 = .ok (.ifCond .ne 17, 3) := by decide +kernel
theorem dX2_step_43 : decode cX2_step 43 = .ok (.aload_n 0, 1) := by decide +kernel
theorem dX2_step_44 : decode cX2_step 44 = .ok (.aload_n 1, 1) := by decide +kernel
theorem dX2_step_45 : decode cX2_step 45 = .ok (.aload_n 1, 1) := by decide +kernel
theorem dX2_step_46 : decode cX2_step 46 = .ok (.getfield 26, 3) := by decide +kernel
theorem dX2_step_49 : decode cX2_step 49 = .ok (.bipush 11, 2) := by decide +kernel
theorem dX2_step_51 : decode cX2_step 51 = .ok (.invokevirtual 41, 3) := by decide +kernel
theorem dX2_step_54 : decode cX2_step 54 = .ok (.goto 4, 3) := by decide +kernel
theorem dX2_step_57 : decode cX2_step 57 = .ok (.iconst (-1), 1) := by decide +kernel
theorem dX2_step_58 : decode cX2_step 58 = .ok (.istore_n 2, 1) := by decide +kernel
theorem dX2_step_59 : decode cX2_step 59 = .ok (.aload_n 0, 1) := by decide +kernel
theorem dX2_step_60 : decode cX2_step 60 = .ok (.getfield 19, 3) := by decide +kernel
theorem dX2_step_63 : decode cX2_step 63 = .ok (.ifCond .ne 127, 3) := by decide +kernel
theorem dX2_step_66 : decode cX2_step 66 = .ok (.aload_n 0, 1) := by decide +kernel
theorem dX2_step_67 : decode cX2_step 67 = .ok (.getfield 9, 3) := by decide +kernel
theorem dX2_step_70 : decode cX2_step 70 = .ok (.aload_n 1, 1) := by decide +kernel
theorem dX2_step_71 : decode cX2_step 71 = .ok (.iload_n 2, 1) := by decide +kernel
theorem dX2_step_72 : decode cX2_step 72 = .ok (.invokevirtual 45, 3) := by decide +kernel
theorem dX2_step_75 : decode cX2_step 75 = .ok (.istore_n 3, 1) := by decide +kernel
theorem dX2_step_76 : decode cX2_step 76 = .ok (.iload_n 3, 1) := by decide +kernel
theorem dX2_step_77 : decode cX2_step 77 = .ok (.bipush 26, 2) := by decide +kernel
theorem dX2_step_79 : decode cX2_step 79 = .ok (.iushr, 1) := by decide +kernel
theorem dX2_step_80 : decode cX2_step 80 = .ok (.istore 4, 2) := by decide +kernel
theorem dX2_step_82 : decode cX2_step 82 = .ok (.iload 4, 2) := by decide +kernel
theorem dX2_step_84 : decode cX2_step 84 = .ok (.bipush 10, 2) := by decide +kernel
theorem dX2_step_86 : decode cX2_step 86 = .ok (.if_icmp .gt 16, 3) := by decide +kernel
theorem dX2_step_89 : decode cX2_step 89 = .ok (.aload_n 1, 1) := by decide +kernel
theorem dX2_step_90 : decode cX2_step 90 = .ok (.iload_n 3, 1) := by decide +kernel
theorem dX2_step_91 : decode cX2_step 91 = .ok (.aload_n 1, 1) := by decide +kernel
theorem dX2_step_92 : decode cX2_step 92 = .ok (.iload_n 3, 1) := by decide +kernel
theorem dX2_step_93 : decode cX2_step 93 = .ok (.invokestatic 51, 3) := by decide +kernel
theorem dX2_step_96 : decode cX2_step 96 = .ok (.invokestatic 54, 3) := by decide +kernel
theorem dX2_step_99 : decode cX2_step 99 = .ok (.goto 91, 3) := by decide +kernel
theorem dX2_step_102 : decode cX2_step 102 = .ok (.iload 4, 2) := by decide +kernel
theorem dX2_step_104 : decode cX2_step 104 = .ok (.bipush 13, 2) := by decide +kernel
theorem dX2_step_106 : decode cX2_step 106 = .ok (.if_icmp .gt 12, 3) := by decide +kernel
theorem dX2_step_109 : decode cX2_step 109 = .ok (.aload_n 0, 1) := by decide +kernel
theorem dX2_step_110 : decode cX2_step 110 = .ok (.aload_n 1, 1) := by decide +kernel
theorem dX2_step_111 : decode cX2_step 111 = .ok (.iload_n 3, 1) := by decide +kernel
theorem dX2_step_112 : decode cX2_step 112 = .ok (.invokevirtual 58, 3) := by decide +kernel
theorem dX2_step_115 : decode cX2_step 115 = .ok (.goto 75, 3) := by decide +kernel
theorem dX2_step_118 : decode cX2_step 118 = .ok (.iload 4, 2) := by decide +kernel
theorem dX2_step_120 : decode cX2_step 120 = .ok (.bipush 18, 2) := by decide +kernel
theorem dX2_step_122 : decode cX2_step 122 = .ok (.if_icmp .gt 12, 3) := by decide +kernel
theorem dX2_step_125 : decode cX2_step 125 = .ok (.aload_n 0, 1) := by decide +kernel
theorem dX2_step_126 : decode cX2_step 126 = .ok (.aload_n 1, 1) := by decide +kernel
theorem dX2_step_127 : decode cX2_step 127 = .ok (.iload_n 3, 1) := by decide +kernel
theorem dX2_step_128 : decode cX2_step 128 = .ok (.invokevirtual 62, 3) := by decide +kernel
theorem dX2_step_131 : decode cX2_step 131 = .ok (.goto 59, 3) := by decide +kernel
theorem dX2_step_134 : decode cX2_step 134 = .ok (.iload 4, 2) := by decide +kernel
theorem dX2_step_136 : decode cX2_step 136 = .ok (.bipush 20, 2) := by decide +kernel
theorem dX2_step_138 : decode cX2_step 138 = .ok (.if_icmp .gt 12, 3) := by decide +kernel
theorem dX2_step_141 : decode cX2_step 141 = .ok (.aload_n 0, 1) := by decide +kernel
theorem dX2_step_142 : decode cX2_step 142 = .ok (.aload_n 1, 1) := by decide +kernel
theorem dX2_step_143 : decode cX2_step 143 = .ok (.iload_n 3, 1) := by decide +kernel
theorem dX2_step_144 : decode cX2_step 144 = .ok (.invokevirtual 65, 3) := by decide +kernel
theorem dX2_step_147 : decode cX2_step 147 = .ok (.goto 43, 3) := by decide +kernel
theorem dX2_step_150 : decode cX2_step 150 = .ok (.iload 4, 2) := by decide +kernel
theorem dX2_step_152 : decode cX2_step 152 = .ok (.bipush 29, 2) := by decide +kernel
theorem dX2_step_154 : decode cX2_step 154 = .ok (.if_icmp .le 13, 3) := by decide +kernel
theorem dX2_step_157 : decode cX2_step 157 = .ok (.aload_n 0, 1) := by decide +kernel
theorem dX2_step_158 : decode cX2_step 158 = .ok (.iconst 2, 1) := by decide +kernel
theorem dX2_step_159 : decode cX2_step 159 = .ok (.iload_n 3, 1) := by decide +kernel
theorem dX2_step_160 : decode cX2_step 160 = .ok (.invokevirtual 68, 3) := by decide +kernel
theorem dX2_step_163 : decode cX2_step 163 = .ok (.pop, 1) := by decide +kernel
theorem dX2_step_164 : decode cX2_step 164 = .ok (.goto 26, 3) := by decide +kernel
theorem dX2_step_167 : decode cX2_step 167 = .ok (.aload_n 1, 1) := by decide +kernel
theorem dX2_step_168 : decode cX2_step 168 = .ok (.getfield 72, 3) := by decide +kernel
theorem dX2_step_171 : decode cX2_step 171 = .ok (.ifCond .ne 13, 3) := by decide +kernel
theorem dX2_step_174 : decode cX2_step 174 = .ok (.aload_n 0, 1) := by decide +kernel
theorem dX2_step_175 : decode cX2_step 175 = .ok (.iconst 3, 1) := by decide +kernel
theorem dX2_step_176 : decode cX2_step 176 = .ok (.iload_n 3, 1) := by decide +kernel
theorem dX2_step_177 : decode cX2_step 177 = .ok (.invokevirtual 68, 3) := by decide +kernel
theorem dX2_step_180 : decode cX2_step 180 = .ok (.pop, 1) := by decide +kernel
theorem dX2_step_181 : decode cX2_step 181 = .ok (.goto 9, 3) := by decide +kernel
theorem dX2_step_184 : decode cX2_step 184 = .ok (.aload_n 0, 1) := by decide +kernel
theorem dX2_step_185 : decode cX2_step 185 = .ok (.aload_n 1, 1) := by decide +kernel
theorem dX2_step_186 : decode cX2_step 186 = .ok (.iload_n 3, 1) := by decide +kernel
theorem dX2_step_187 : decode cX2_step 187 = .ok (.invokevirtual 75, 3) := by decide +kernel
theorem dX2_step_190 : decode cX2_step 190 = .ok (.aload_n 0, 1) := by decide +kernel
theorem dX2_step_191 : decode cX2_step 191 = .ok (.getfield 19, 3) := by decide +kernel
theorem dX2_step_194 : decode cX2_step 194 = .ok (.ifCond .ne 25, 3) := by decide +kernel
theorem dX2_step_197 : decode cX2_step 197 = .ok (.aload_n 1, 1) := by decide +kernel
theorem dX2_step_198 : decode cX2_step 198 = .ok (.aload_n 0, 1) := by decide +kernel
theorem dX2_step_199 : decode cX2_step 199 = .ok (.getfield 31, 3) := by decide +kernel
theorem dX2_step_202 : decode cX2_step 202 = .ok (.putfield 26, 3) := by decide +kernel
theorem dX2_step_205 : decode cX2_step 205 = .ok (.aload_n 1, 1) := by decide +kernel
theorem dX2_step_206 : decode cX2_step 206 = .ok (.getfield 34, 3) := by decide +kernel
theorem dX2_step_209 : decode cX2_step 209 = .ok (.bipush 8, 2) := by decide +kernel
theorem dX2_step_211 : decode cX2_step 211 = .ok (.aload_n 0, 1) := by decide +kernel
theorem dX2_step_212 : decode cX2_step 212 = .ok (.getfield 38, 3) := by decide +kernel
theorem dX2_step_215 : decode cX2_step 215 = .ok (.iastore, 1) := by decide +kernel
theorem dX2_step_216 : decode cX2_step 216 = .ok (.goto 15, 3) := by decide +kernel
theorem dX2_step_219 : decode cX2_step 219 = .ok (.aload_n 1, 1) := by decide +kernel
theorem dX2_step_220 : decode cX2_step 220 = .ok (.aload_n 0, 1) := by decide +kernel
theorem dX2_step_221 : decode cX2_step 221 = .ok (.getfield 19, 3) := by decide +kernel
theorem dX2_step_224 : decode cX2_step 224 = .ok (.aload_n 0, 1) := by decide +kernel
theorem dX2_step_225 : decode cX2_step 225 = .ok (.getfield 23, 3) := by decide +kernel
theorem dX2_step_228 : decode cX2_step 228 = .ok (.invokevirtual 78, 3) := by decide +kernel
theorem dX2_step_231 : decode cX2_step 231 = .ok (.return_, 1) := by decide +kernel
theorem dX2_valueA_0 : decode cX2_valueA 0 = .ok (.aload_n 0, 1) := by decide +kernel
theorem dX2_valueA_1 : decode cX2_valueA 1 = .ok (.getfield 82, 3) := by decide +kernel
theorem dX2_valueA_4 : decode cX2_valueA 4 = .ok (.iload_n 1, 1) := by decide +kernel
theorem dX2_valueA_5 : decode cX2_valueA 5 = .ok (.bipush 20, 2) := by decide +kernel
theorem dX2_valueA_7 : decode cX2_valueA 7 = .ok (.iushr, 1) := by decide +kernel
theorem dX2_valueA_8 : decode cX2_valueA 8 = .ok (.bipush 7, 2) := by decide +kernel
theorem dX2_valueA_10 : decode cX2_valueA 10 = .ok (.iand, 1) := by decide +kernel
theorem dX2_valueA_11 : decode cX2_valueA 11 = .ok (.iaload, 1) := by decide +kernel
theorem dX2_valueA_12 : decode cX2_valueA 12 = .ok (.ireturn, 1) := by decide +kernel
theorem dX2_valueB_0 : decode cX2_valueB 0 = .ok (.aload_n 0, 1) := by decide +kernel
theorem dX2_valueB_1 : decode cX2_valueB 1 = .ok (.getfield 82, 3) := by decide +kernel
theorem dX2_valueB_4 : decode cX2_valueB 4 = .ok (.iload_n 1, 1) := by decide +kernel
theorem dX2_valueB_5 : decode cX2_valueB 5 = .ok (.bipush 17, 2) := by decide +kernel
theorem dX2_valueB_7 : decode cX2_valueB 7 = .ok (.iushr, 1) := by decide +kernel
theorem dX2_valueB_8 : decode cX2_valueB 8 = .ok (.bipush 7, 2) := by decide +kernel
theorem dX2_valueB_10 : decode cX2_valueB 10 = .ok (.iand, 1) := by decide +kernel
theorem dX2_valueB_11 : decode cX2_valueB 11 = .ok (.iaload, 1) := by decide +kernel
theorem dX2_valueB_12 : decode cX2_valueB 12 = .ok (.ireturn, 1) := by decide +kernel
theorem dX2_number_0 : decode cX2_number 0 = .ok (.iload_n 0, 1) := by decide +kernel
theorem dX2_number_1 : decode cX2_number 1 = .ok (.bipush 15, 2) := by decide +kernel
theorem dX2_number_3 : decode cX2_number 3 = .ok (.ishl, 1) := by decide +kernel
theorem dX2_number_4 : decode cX2_number 4 = .ok (.bipush 15, 2) := by decide +kernel
theorem dX2_number_6 : decode cX2_number 6 = .ok (.ishr, 1) := by decide +kernel
theorem dX2_number_7 : decode cX2_number 7 = .ok (.ireturn, 1) := by decide +kernel
theorem dX2_setD_0 : decode cX2_setD 0 = .ok (.aload_n 0, 1) := by decide +kernel
theorem dX2_setD_1 : decode cX2_setD 1 = .ok (.getfield 82, 3) := by decide +kernel
theorem dX2_setD_4 : decode cX2_setD 4 = .ok (.iload_n 1, 1) := by decide +kernel
theorem dX2_setD_5 : decode cX2_setD 5 = .ok (.bipush 23, 2) := by decide +kernel
theorem dX2_setD_7 : decode cX2_setD 7 = .ok (.iushr, 1) := by decide +kernel
theorem dX2_setD_8 : decode cX2_setD 8 = .ok (.bipush 7, 2) := by decide +kernel
theorem dX2_setD_10 : decode cX2_setD 10 = .ok (.iand, 1) := by decide +kernel
theorem dX2_setD_11 : decode cX2_setD 11 = .ok (.iload_n 2, 1) := by decide +kernel
theorem dX2_setD_12 : decode cX2_setD 12 = .ok (.iastore, 1) := by decide +kernel
theorem dX2_setD_13 : decode cX2_setD 13 = .ok (.return_, 1) := by decide +kernel
theorem dX2_refuse_0 : decode cX2_refuse 0 = .ok (.aload_n 0, 1) := by decide +kernel
theorem dX2_refuse_1 : decode cX2_refuse 1 = .ok (.iload_n 1, 1) := by decide +kernel
theorem dX2_refuse_2 : decode cX2_refuse 2 = .ok (.putfield 19, 3) := by decide +kernel
theorem dX2_refuse_5 : decode cX2_refuse 5 = .ok (.aload_n 0, 1) := by decide +kernel
theorem dX2_refuse_6 : decode cX2_refuse 6 = .ok (.iload_n 2, 1) := by decide +kernel
theorem dX2_refuse_7 : decode cX2_refuse 7 = .ok (.putfield 23, 3) := by decide +kernel
theorem dX2_refuse_10 : decode cX2_refuse 10 = .ok (.iconst (-1), 1) := by decide +kernel
theorem dX2_refuse_11 : decode cX2_refuse 11 = .ok (.ireturn, 1) := by decide +kernel
theorem dX2_lineTrap_0 : decode cX2_lineTrap 0 = .ok (.aload_n 0, 1) := by decide +kernel
theorem dX2_lineTrap_1 : decode cX2_lineTrap 1 = .ok (.getfield 34, 3) := by decide +kernel
theorem dX2_lineTrap_4 : decode cX2_lineTrap 4 = .ok (.iconst 0, 1) := by decide +kernel
theorem dX2_lineTrap_5 : decode cX2_lineTrap 5 = .ok (.iaload, 1) := by decide +kernel
theorem dX2_lineTrap_6 : decode cX2_lineTrap 6 = .ok (.istore_n 1, 1) := by decide +kernel
theorem dX2_lineTrap_7 : decode cX2_lineTrap 7 = .ok (.iload_n 1, 1) := by decide +kernel
theorem dX2_lineTrap_8 : decode cX2_lineTrap 8 = .ok (.iconst 1, 1) := by decide +kernel
theorem dX2_lineTrap_9 : decode cX2_lineTrap 9 = .ok (.iand, 1) := by decide +kernel
theorem dX2_lineTrap_10 : decode cX2_lineTrap 10 = .ok (.ifCond .ne 5, 3) := by decide +kernel
theorem dX2_lineTrap_13 : decode cX2_lineTrap 13 = .ok (.iconst 0, 1) := by decide +kernel
theorem dX2_lineTrap_14 : decode cX2_lineTrap 14 = .ok (.ireturn, 1) := by decide +kernel
theorem dX2_lineTrap_15 : decode cX2_lineTrap 15 = .ok (.iload_n 1, 1) := by decide +kernel
theorem dX2_lineTrap_16 : decode cX2_lineTrap 16 = .ok (.sipush 256, 3) := by decide +kernel
theorem dX2_lineTrap_19 : decode cX2_lineTrap 19 = .ok (.iand, 1) := by decide +kernel
theorem dX2_lineTrap_20 : decode cX2_lineTrap 20 = .ok (.ifCond .eq 13, 3) := by decide +kernel
theorem dX2_lineTrap_23 : decode cX2_lineTrap 23 = .ok (.aload_n 0, 1) := by decide +kernel
theorem dX2_lineTrap_24 : decode cX2_lineTrap 24 = .ok (.invokevirtual 85, 3) := by decide +kernel
theorem dX2_lineTrap_27 : decode cX2_lineTrap 27 = .ok (.ifCond .eq 6, 3) := by decide +kernel
theorem dX2_lineTrap_30 : decode cX2_lineTrap 30 = .ok (.bipush 16, 2) := by decide +kernel
theorem dX2_lineTrap_32 : decode cX2_lineTrap 32 = .ok (.ireturn, 1) := by decide +kernel
theorem dX2_lineTrap_33 : decode cX2_lineTrap 33 = .ok (.iload_n 1, 1) := by decide +kernel
theorem dX2_lineTrap_34 : decode cX2_lineTrap 34 = .ok (.sipush 512, 3) := by decide +kernel
theorem dX2_lineTrap_37 : decode cX2_lineTrap 37 = .ok (.iand, 1) := by decide +kernel
theorem dX2_lineTrap_38 : decode cX2_lineTrap 38 = .ok (.ifCond .eq 15, 3) := by decide +kernel
theorem dX2_lineTrap_41 : decode cX2_lineTrap 41 = .ok (.aload_n 0, 1) := by decide +kernel
theorem dX2_lineTrap_42 : decode cX2_lineTrap 42 = .ok (.getfield 89, 3) := by decide +kernel
theorem dX2_lineTrap_45 : decode cX2_lineTrap 45 = .ok (.ifCond .le 8, 3) := by decide +kernel
theorem dX2_lineTrap_48 : decode cX2_lineTrap 48 = .ok (.bipush 17, 2) := by decide +kernel
theorem dX2_lineTrap_50 : decode cX2_lineTrap 50 = .ok (.goto 4, 3) := by decide +kernel
theorem dX2_lineTrap_53 : decode cX2_lineTrap 53 = .ok (.iconst 0, 1) := by decide +kernel
theorem dX2_lineTrap_54 : decode cX2_lineTrap 54 = .ok (.ireturn, 1) := by decide +kernel
theorem dX2_locate_0 : decode cX2_locate 0 = .ok (.aload_n 1, 1) := by decide +kernel
theorem dX2_locate_1 : decode cX2_locate 1 = .ok (.getfield 34, 3) := by decide +kernel
theorem dX2_locate_4 : decode cX2_locate 4 = .ok (.iconst 5, 1) := by decide +kernel
theorem dX2_locate_5 : decode cX2_locate 5 = .ok (.iaload, 1) := by decide +kernel
theorem dX2_locate_6 : decode cX2_locate 6 = .ok (.istore 4, 2) := by decide +kernel
theorem dX2_locate_8 : decode cX2_locate 8 = .ok (.iload 4, 2) := by decide +kernel
theorem dX2_locate_10 : decode cX2_locate 10 = .ok (.ifCond .lt 22, 3) := by decide +kernel
theorem dX2_locate_13 : decode cX2_locate 13 = .ok (.aload_n 1, 1) := by decide +kernel
theorem dX2_locate_14 : decode cX2_locate 14 = .ok (.iload_n 2, 1) := by decide +kernel
theorem dX2_locate_15 : decode cX2_locate 15 = .ok (.invokevirtual 92, 3) := by decide +kernel
theorem dX2_locate_18 : decode cX2_locate 18 = .ok (.ifCond .eq 7, 3) := by decide +kernel
theorem dX2_locate_21 : decode cX2_locate 21 = .ok (.iload_n 2, 1) := by decide +kernel
theorem dX2_locate_22 : decode cX2_locate 22 = .ok (.goto 9, 3) := by decide +kernel
theorem dX2_locate_25 : decode cX2_locate 25 = .ok (.aload_n 0, 1) := by decide +kernel
theorem dX2_locate_26 : decode cX2_locate 26 = .ok (.iconst 5, 1) := by decide +kernel
theorem dX2_locate_27 : decode cX2_locate 27 = .ok (.iload_n 2, 1) := by decide +kernel
theorem dX2_locate_28 : decode cX2_locate 28 = .ok (.invokevirtual 68, 3) := by decide +kernel
theorem dX2_locate_31 : decode cX2_locate 31 = .ok (.ireturn, 1) := by decide +kernel
theorem dX2_locate_32 : decode cX2_locate 32 = .ok (.iload_n 2, 1) := by decide +kernel
theorem dX2_locate_33 : decode cX2_locate 33 = .ok (.ifCond .lt 10, 3) := by decide +kernel
theorem dX2_locate_36 : decode cX2_locate 36 = .ok (.iload_n 2, 1) := by decide +kernel
theorem dX2_locate_37 : decode cX2_locate 37 = .ok (.sipush 16384, 3) := by decide +kernel
theorem dX2_locate_40 : decode cX2_locate 40 = .ok (.if_icmp .lt 10, 3) := by decide +kernel
theorem dX2_locate_43 : decode cX2_locate 43 = .ok (.aload_n 0, 1) := by decide +kernel
theorem dX2_locate_44 : decode cX2_locate 44 = .ok (.iload_n 3, 1) := by decide +kernel
theorem dX2_locate_45 : decode cX2_locate 45 = .ok (.iload_n 2, 1) := by decide +kernel
theorem dX2_locate_46 : decode cX2_locate 46 = .ok (.invokevirtual 68, 3) := by decide +kernel
theorem dX2_locate_49 : decode cX2_locate 49 = .ok (.ireturn, 1) := by decide +kernel
theorem dX2_locate_50 : decode cX2_locate 50 = .ok (.iload_n 2, 1) := by decide +kernel
theorem dX2_locate_51 : decode cX2_locate 51 = .ok (.bipush 6, 2) := by decide +kernel
theorem dX2_locate_53 : decode cX2_locate 53 = .ok (.ishr, 1) := by decide +kernel
theorem dX2_locate_54 : decode cX2_locate 54 = .ok (.istore 5, 2) := by decide +kernel
theorem dX2_locate_56 : decode cX2_locate 56 = .ok (.bipush 64, 2) := by decide +kernel
theorem dX2_locate_58 : decode cX2_locate 58 = .ok (.iload 4, 2) := by decide +kernel
theorem dX2_locate_60 : decode cX2_locate 60 = .ok (.bipush 63, 2) := by decide +kernel
theorem dX2_locate_62 : decode cX2_locate 62 = .ok (.iand, 1) := by decide +kernel
theorem dX2_locate_63 : decode cX2_locate 63 = .ok (.imul, 1) := by decide +kernel
theorem dX2_locate_64 : decode cX2_locate 64 = .ok (.iload 5, 2) := by decide +kernel
theorem dX2_locate_66 : decode cX2_locate 66 = .ok (.iadd, 1) := by decide +kernel
theorem dX2_locate_67 : decode cX2_locate 67 = .ok (.istore 6, 2) := by decide +kernel
theorem dX2_locate_69 : decode cX2_locate 69 = .ok (.aload_n 1, 1) := by decide +kernel
theorem dX2_locate_70 : decode cX2_locate 70 = .ok (.getfield 96, 3) := by decide +kernel
theorem dX2_locate_73 : decode cX2_locate 73 = .ok (.iload 5, 2) := by decide +kernel
theorem dX2_locate_75 : decode cX2_locate 75 = .ok (.iaload, 1) := by decide +kernel
theorem dX2_locate_76 : decode cX2_locate 76 = .ok (.istore 7, 2) := by decide +kernel
theorem dX2_locate_78 : decode cX2_locate 78 = .ok (.iload 7, 2) := by decide +kernel
theorem dX2_locate_80 : decode cX2_locate 80 = .ok (.iconst (-1), 1) := by decide +kernel
theorem dX2_locate_81 : decode cX2_locate 81 = .ok (.if_icmp .ne 108, 3) := by decide +kernel
theorem dX2_locate_84 : decode cX2_locate 84 = .ok (.aload_n 1, 1) := by decide +kernel
theorem dX2_locate_85 : decode cX2_locate 85 = .ok (.iload 6, 2) := by decide +kernel
theorem dX2_locate_87 : decode cX2_locate 87 = .ok (.invokevirtual 92, 3) := by decide +kernel
theorem dX2_locate_90 : decode cX2_locate 90 = .ok (.ifCond .ne 10, 3) := by decide +kernel
theorem dX2_locate_93 : decode cX2_locate 93 = .ok (.aload_n 0, 1) := by decide +kernel
theorem dX2_locate_94 : decode cX2_locate 94 = .ok (.iconst 5, 1) := by decide +kernel
theorem dX2_locate_95 : decode cX2_locate 95 = .ok (.iload_n 2, 1) := by decide +kernel
theorem dX2_locate_96 : decode cX2_locate 96 = .ok (.invokevirtual 68, 3) := by decide +kernel
theorem dX2_locate_99 : decode cX2_locate 99 = .ok (.ireturn, 1) := by decide +kernel
theorem dX2_locate_100 : decode cX2_locate 100 = .ok (.aload_n 0, 1) := by decide +kernel
theorem dX2_locate_101 : decode cX2_locate 101 = .ok (.getfield 9, 3) := by decide +kernel
theorem dX2_locate_104 : decode cX2_locate 104 = .ok (.aload_n 1, 1) := by decide +kernel
theorem dX2_locate_105 : decode cX2_locate 105 = .ok (.iload 6, 2) := by decide +kernel
theorem dX2_locate_107 : decode cX2_locate 107 = .ok (.invokevirtual 45, 3) := by decide +kernel
theorem dX2_locate_110 : decode cX2_locate 110 = .ok (.istore 8, 2) := by decide +kernel
theorem dX2_locate_112 : decode cX2_locate 112 = .ok (.iload 8, 2) := by decide +kernel
theorem dX2_locate_114 : decode cX2_locate 114 = .ok (.bipush 8, 2) := by decide +kernel
theorem dX2_locate_116 : decode cX2_locate 116 = .ok (.ishr, 1) := by decide +kernel
theorem dX2_locate_117 : decode cX2_locate 117 = .ok (.bipush 63, 2) := by decide +kernel
theorem dX2_locate_119 : decode cX2_locate 119 = .ok (.iand, 1) := by decide +kernel
theorem dX2_locate_120 : decode cX2_locate 120 = .ok (.istore 9, 2) := by decide +kernel
theorem dX2_locate_122 : decode cX2_locate 122 = .ok (.iload 8, 2) := by decide +kernel
theorem dX2_locate_124 : decode cX2_locate 124 = .ok (.iconst 1, 1) := by decide +kernel
theorem dX2_locate_125 : decode cX2_locate 125 = .ok (.iand, 1) := by decide +kernel
theorem dX2_locate_126 : decode cX2_locate 126 = .ok (.ifCond .eq 12, 3) := by decide +kernel
theorem dX2_locate_129 : decode cX2_locate 129 = .ok (.iload 9, 2) := by decide +kernel
theorem dX2_locate_131 : decode cX2_locate 131 = .ok (.aload_n 1, 1) := by decide +kernel
theorem dX2_locate_132 : decode cX2_locate 132 = .ok (.getfield 99, 3) := by decide +kernel
theorem dX2_locate_135 : decode cX2_locate 135 = .ok (.if_icmp .lt 10, 3) := by decide +kernel
theorem dX2_locate_138 : decode cX2_locate 138 = .ok (.aload_n 0, 1) := by decide +kernel
theorem dX2_locate_139 : decode cX2_locate 139 = .ok (.iload_n 3, 1) := by decide +kernel
theorem dX2_locate_140 : decode cX2_locate 140 = .ok (.iload_n 2, 1) := by decide +kernel
theorem dX2_locate_141 : decode cX2_locate 141 = .ok (.invokevirtual 68, 3) := by decide +kernel
theorem dX2_locate_144 : decode cX2_locate 144 = .ok (.ireturn, 1) := by decide +kernel
theorem dX2_locate_145 : decode cX2_locate 145 = .ok (.aload_n 0, 1) := by decide +kernel
theorem dX2_locate_146 : decode cX2_locate 146 = .ok (.getfield 9, 3) := by decide +kernel
theorem dX2_locate_149 : decode cX2_locate 149 = .ok (.aload_n 1, 1) := by decide +kernel
theorem dX2_locate_150 : decode cX2_locate 150 = .ok (.iload 6, 2) := by decide +kernel
theorem dX2_locate_152 : decode cX2_locate 152 = .ok (.iload 8, 2) := by decide +kernel
theorem dX2_locate_154 : decode cX2_locate 154 = .ok (.bipush 8, 2) := by decide +kernel
theorem dX2_locate_156 : decode cX2_locate 156 = .ok (.ior, 1) := by decide +kernel
theorem dX2_locate_157 : decode cX2_locate 157 = .ok (.invokevirtual 102, 3) := by decide +kernel
theorem dX2_locate_160 : decode cX2_locate 160 = .ok (.iload 9, 2) := by decide +kernel
theorem dX2_locate_162 : decode cX2_locate 162 = .ok (.iconst 3, 1) := by decide +kernel
theorem dX2_locate_163 : decode cX2_locate 163 = .ok (.ishl, 1) := by decide +kernel
theorem dX2_locate_164 : decode cX2_locate 164 = .ok (.iload 8, 2) := by decide +kernel
theorem dX2_locate_166 : decode cX2_locate 166 = .ok (.iconst 1, 1) := by decide +kernel
theorem dX2_locate_167 : decode cX2_locate 167 = .ok (.ishr, 1) := by decide +kernel
theorem dX2_locate_168 : decode cX2_locate 168 = .ok (.iconst 3, 1) := by decide +kernel
theorem dX2_locate_169 : decode cX2_locate 169 = .ok (.iand, 1) := by decide +kernel
theorem dX2_locate_170 : decode cX2_locate 170 = .ok (.ior, 1) := by decide +kernel
theorem dX2_locate_171 : decode cX2_locate 171 = .ok (.iload 8, 2) := by decide +kernel
theorem dX2_locate_173 : decode cX2_locate 173 = .ok (.iconst 2, 1) := by decide +kernel
theorem dX2_locate_174 : decode cX2_locate 174 = .ok (.ishr, 1) := by decide +kernel
theorem dX2_locate_175 : decode cX2_locate 175 = .ok (.iconst 4, 1) := by decide +kernel
theorem dX2_locate_176 : decode cX2_locate 176 = .ok (.iand, 1) := by decide +kernel
theorem dX2_locate_177 : decode cX2_locate 177 = .ok (.ior, 1) := by decide +kernel
theorem dX2_locate_178 : decode cX2_locate 178 = .ok (.istore 7, 2) := by decide +kernel
theorem dX2_locate_180 : decode cX2_locate 180 = .ok (.aload_n 1, 1) := by decide +kernel
theorem dX2_locate_181 : decode cX2_locate 181 = .ok (.getfield 96, 3) := by decide +kernel
theorem dX2_locate_184 : decode cX2_locate 184 = .ok (.iload 5, 2) := by decide +kernel
theorem dX2_locate_186 : decode cX2_locate 186 = .ok (.iload 7, 2) := by decide +kernel
theorem dX2_locate_188 : decode cX2_locate 188 = .ok (.iastore, 1) := by decide +kernel
theorem dX2_locate_189 : decode cX2_locate 189 = .ok (.aload_n 1, 1) := by decide +kernel
theorem dX2_locate_190 : decode cX2_locate 190 = .ok (.getfield 72, 3) := by decide +kernel
theorem dX2_locate_193 : decode cX2_locate 193 = .ok (.ifCond .ne 10, 3) := by decide +kernel
theorem dX2_locate_196 : decode cX2_locate 196 = .ok (.iload 7, 2) := by decide +kernel
theorem dX2_locate_198 : decode cX2_locate 198 = .ok (.iconst 2, 1) := by decide +kernel
theorem dX2_locate_199 : decode cX2_locate 199 = .ok (.iand, 1) := by decide +kernel
theorem dX2_locate_200 : decode cX2_locate 200 = .ok (.ifCond .eq 16, 3) := by decide +kernel
theorem dX2_locate_203 : decode cX2_locate 203 = .ok (.iload_n 3, 1) := by decide +kernel
theorem dX2_locate_204 : decode cX2_locate 204 = .ok (.bipush 13, 2) := by decide +kernel
theorem dX2_locate_206 : decode cX2_locate 206 = .ok (.if_icmp .ne 17, 3) := by decide +kernel
theorem dX2_locate_209 : decode cX2_locate 209 = .ok (.iload 7, 2) := by decide +kernel
theorem dX2_locate_211 : decode cX2_locate 211 = .ok (.iconst 1, 1) := by decide +kernel
theorem dX2_locate_212 : decode cX2_locate 212 = .ok (.iand, 1) := by decide +kernel
theorem dX2_locate_213 : decode cX2_locate 213 = .ok (.ifCond .ne 10, 3) := by decide +kernel
theorem dX2_locate_216 : decode cX2_locate 216 = .ok (.aload_n 0, 1) := by decide +kernel
theorem dX2_locate_217 : decode cX2_locate 217 = .ok (.iload_n 3, 1) := by decide +kernel
theorem dX2_locate_218 : decode cX2_locate 218 = .ok (.iload_n 2, 1) := by decide +kernel
theorem dX2_locate_219 : decode cX2_locate 219 = .ok (.invokevirtual 68, 3) := by decide +kernel
theorem dX2_locate_222 : decode cX2_locate 222 = .ok (.ireturn, 1) := by decide +kernel
theorem dX2_locate_223 : decode cX2_locate 223 = .ok (.iload_n 3, 1) := by decide +kernel
theorem dX2_locate_224 : decode cX2_locate 224 = .ok (.bipush 13, 2) := by decide +kernel
theorem dX2_locate_226 : decode cX2_locate 226 = .ok (.if_icmp .ne 44, 3) := by decide +kernel
theorem dX2_locate_229 : decode cX2_locate 229 = .ok (.iload 7, 2) := by decide +kernel
theorem dX2_locate_231 : decode cX2_locate 231 = .ok (.iconst 4, 1) := by decide +kernel
theorem dX2_locate_232 : decode cX2_locate 232 = .ok (.iand, 1) := by decide +kernel
theorem dX2_locate_233 : decode cX2_locate 233 = .ok (.ifCond .ne 37, 3) := by decide +kernel
theorem dX2_locate_236 : decode cX2_locate 236 = .ok (.aload_n 0, 1) := by decide +kernel
theorem dX2_locate_237 : decode cX2_locate 237 = .ok (.getfield 9, 3) := by decide +kernel
theorem dX2_locate_240 : decode cX2_locate 240 = .ok (.aload_n 1, 1) := by decide +kernel
theorem dX2_locate_241 : decode cX2_locate 241 = .ok (.iload 6, 2) := by decide +kernel
theorem dX2_locate_243 : decode cX2_locate 243 = .ok (.aload_n 0, 1) := by decide +kernel
theorem dX2_locate_244 : decode cX2_locate 244 = .ok (.getfield 9, 3) := by decide +kernel
theorem dX2_locate_247 : decode cX2_locate 247 = .ok (.aload_n 1, 1) := by decide +kernel
theorem dX2_locate_248 : decode cX2_locate 248 = .ok (.iload 6, 2) := by decide +kernel
theorem dX2_locate_250 : decode cX2_locate 250 = .ok (.invokevirtual 45, 3) := by decide +kernel
theorem dX2_locate_253 : decode cX2_locate 253 = .ok (.bipush 16, 2) := by decide +kernel
theorem dX2_locate_255 : decode cX2_locate 255 = .ok (.ior, 1) := by decide +kernel
theorem dX2_locate_256 : decode cX2_locate 256 = .ok (.invokevirtual 102, 3) := by decide +kernel
theorem dX2_locate_259 : decode cX2_locate 259 = .ok (.aload_n 1, 1) := by decide +kernel
theorem dX2_locate_260 : decode cX2_locate 260 = .ok (.getfield 96, 3) := by decide +kernel
theorem dX2_locate_263 : decode cX2_locate 263 = .ok (.iload 5, 2) := by decide +kernel
theorem dX2_locate_265 : decode cX2_locate 265 = .ok (.iload 7, 2) := by decide +kernel
theorem dX2_locate_267 : decode cX2_locate 267 = .ok (.iconst 4, 1) := by decide +kernel
theorem dX2_locate_268 : decode cX2_locate 268 = .ok (.ior, 1) := by decide +kernel
theorem dX2_locate_269 : decode cX2_locate 269 = .ok (.iastore, 1) := by decide +kernel
theorem dX2_locate_270 : decode cX2_locate 270 = .ok (.iload 7, 2) := by decide +kernel
theorem dX2_locate_272 : decode cX2_locate 272 = .ok (.iconst 3, 1) := by decide +kernel
theorem dX2_locate_273 : decode cX2_locate 273 = .ok (.ishr, 1) := by decide +kernel
theorem dX2_locate_274 : decode cX2_locate 274 = .ok (.bipush 64, 2) := by decide +kernel
theorem dX2_locate_276 : decode cX2_locate 276 = .ok (.imul, 1) := by decide +kernel
theorem dX2_locate_277 : decode cX2_locate 277 = .ok (.iload_n 2, 1) := by decide +kernel
theorem dX2_locate_278 : decode cX2_locate 278 = .ok (.bipush 63, 2) := by decide +kernel
theorem dX2_locate_280 : decode cX2_locate 280 = .ok (.iand, 1) := by decide +kernel
theorem dX2_locate_281 : decode cX2_locate 281 = .ok (.iadd, 1) := by decide +kernel
theorem dX2_locate_282 : decode cX2_locate 282 = .ok (.ireturn, 1) := by decide +kernel
theorem dX2_sum_0 : decode cX2_sum 0 = .ok (.aload_n 0, 1) := by decide +kernel
theorem dX2_sum_1 : decode cX2_sum 1 = .ok (.iload_n 1, 1) := by decide +kernel
theorem dX2_sum_2 : decode cX2_sum 2 = .ok (.invokestatic 105, 3) := by decide +kernel
theorem dX2_sum_5 : decode cX2_sum 5 = .ok (.istore_n 2, 1) := by decide +kernel
theorem dX2_sum_6 : decode cX2_sum 6 = .ok (.aload_n 0, 1) := by decide +kernel
theorem dX2_sum_7 : decode cX2_sum 7 = .ok (.iload_n 1, 1) := by decide +kernel
theorem dX2_sum_8 : decode cX2_sum 8 = .ok (.invokestatic 108, 3) := by decide +kernel
theorem dX2_sum_11 : decode cX2_sum 11 = .ok (.istore_n 3, 1) := by decide +kernel
theorem dX2_sum_12 : decode cX2_sum 12 = .ok (.iload_n 1, 1) := by decide +kernel
theorem dX2_sum_13 : decode cX2_sum 13 = .ok (.bipush 26, 2) := by decide +kernel
theorem dX2_sum_15 : decode cX2_sum 15 = .ok (.iushr, 1) := by decide +kernel
theorem dX2_sum_16 : decode cX2_sum 16 = .ok (.tableswitch 112 0 9 #[56, 60, 64, 68, 72, 76, 80, 91, 98, 105], 56) := by decide +kernel
theorem dX2_sum_72 : decode cX2_sum 72 = .ok (.iload_n 2, 1) := by decide +kernel
theorem dX2_sum_73 : decode cX2_sum 73 = .ok (.iload_n 3, 1) := by decide +kernel
theorem dX2_sum_74 : decode cX2_sum 74 = .ok (.iadd, 1) := by decide +kernel
theorem dX2_sum_75 : decode cX2_sum 75 = .ok (.ireturn, 1) := by decide +kernel
theorem dX2_sum_76 : decode cX2_sum 76 = .ok (.iload_n 2, 1) := by decide +kernel
theorem dX2_sum_77 : decode cX2_sum 77 = .ok (.iload_n 3, 1) := by decide +kernel
theorem dX2_sum_78 : decode cX2_sum 78 = .ok (.isub, 1) := by decide +kernel
theorem dX2_sum_79 : decode cX2_sum 79 = .ok (.ireturn, 1) := by decide +kernel
theorem dX2_sum_80 : decode cX2_sum 80 = .ok (.iload_n 2, 1) := by decide +kernel
theorem dX2_sum_81 : decode cX2_sum 81 = .ok (.iload_n 3, 1) := by decide +kernel
theorem dX2_sum_82 : decode cX2_sum 82 = .ok (.iand, 1) := by decide +kernel
theorem dX2_sum_83 : decode cX2_sum 83 = .ok (.ireturn, 1) := by decide +kernel
theorem dX2_sum_84 : decode cX2_sum 84 = .ok (.iload_n 2, 1) := by decide +kernel
theorem dX2_sum_85 : decode cX2_sum 85 = .ok (.iload_n 3, 1) := by decide +kernel
theorem dX2_sum_86 : decode cX2_sum 86 = .ok (.ior, 1) := by decide +kernel
theorem dX2_sum_87 : decode cX2_sum 87 = .ok (.ireturn, 1) := by decide +kernel
theorem dX2_sum_88 : decode cX2_sum 88 = .ok (.iload_n 2, 1) := by decide +kernel
theorem dX2_sum_89 : decode cX2_sum 89 = .ok (.iload_n 3, 1) := by decide +kernel
theorem dX2_sum_90 : decode cX2_sum 90 = .ok (.ixor, 1) := by decide +kernel
theorem dX2_sum_91 : decode cX2_sum 91 = .ok (.ireturn, 1) := by decide +kernel
theorem dX2_sum_92 : decode cX2_sum 92 = .ok (.iload_n 2, 1) := by decide +kernel
theorem dX2_sum_93 : decode cX2_sum 93 = .ok (.iload_n 3, 1) := by decide +kernel
theorem dX2_sum_94 : decode cX2_sum 94 = .ok (.imul, 1) := by decide +kernel
theorem dX2_sum_95 : decode cX2_sum 95 = .ok (.ireturn, 1) := by decide +kernel
theorem dX2_sum_96 : decode cX2_sum 96 = .ok (.iload_n 2, 1) := by decide +kernel
theorem dX2_sum_97 : decode cX2_sum 97 = .ok (.iload_n 3, 1) := by decide +kernel
theorem dX2_sum_98 : decode cX2_sum 98 = .ok (.if_icmp .ge 7, 3) := by decide +kernel
theorem dX2_sum_101 : decode cX2_sum 101 = .ok (.iconst 1, 1) := by decide +kernel
theorem dX2_sum_102 : decode cX2_sum 102 = .ok (.goto 4, 3) := by decide +kernel
theorem dX2_sum_105 : decode cX2_sum 105 = .ok (.iconst 0, 1) := by decide +kernel
theorem dX2_sum_106 : decode cX2_sum 106 = .ok (.ireturn, 1) := by decide +kernel
theorem dX2_sum_107 : decode cX2_sum 107 = .ok (.iload_n 2, 1) := by decide +kernel
theorem dX2_sum_108 : decode cX2_sum 108 = .ok (.iload_n 3, 1) := by decide +kernel
theorem dX2_sum_109 : decode cX2_sum 109 = .ok (.bipush 31, 2) := by decide +kernel
theorem dX2_sum_111 : decode cX2_sum 111 = .ok (.iand, 1) := by decide +kernel
theorem dX2_sum_112 : decode cX2_sum 112 = .ok (.ishl, 1) := by decide +kernel
theorem dX2_sum_113 : decode cX2_sum 113 = .ok (.ireturn, 1) := by decide +kernel
theorem dX2_sum_114 : decode cX2_sum 114 = .ok (.iload_n 2, 1) := by decide +kernel
theorem dX2_sum_115 : decode cX2_sum 115 = .ok (.iload_n 3, 1) := by decide +kernel
theorem dX2_sum_116 : decode cX2_sum 116 = .ok (.bipush 31, 2) := by decide +kernel
theorem dX2_sum_118 : decode cX2_sum 118 = .ok (.iand, 1) := by decide +kernel
theorem dX2_sum_119 : decode cX2_sum 119 = .ok (.iushr, 1) := by decide +kernel
theorem dX2_sum_120 : decode cX2_sum 120 = .ok (.ireturn, 1) := by decide +kernel
theorem dX2_sum_121 : decode cX2_sum 121 = .ok (.iload_n 2, 1) := by decide +kernel
theorem dX2_sum_122 : decode cX2_sum 122 = .ok (.iload_n 1, 1) := by decide +kernel
theorem dX2_sum_123 : decode cX2_sum 123 = .ok (.invokestatic 111, 3) := by decide +kernel
theorem dX2_sum_126 : decode cX2_sum 126 = .ok (.iadd, 1) := by decide +kernel
theorem dX2_sum_127 : decode cX2_sum 127 = .ok (.ireturn, 1) := by decide +kernel
theorem dX2_sum_128 : decode cX2_sum 128 = .ok (.iload_n 1, 1) := by decide +kernel
theorem dX2_sum_129 : decode cX2_sum 129 = .ok (.invokestatic 111, 3) := by decide +kernel
theorem dX2_sum_132 : decode cX2_sum 132 = .ok (.bipush 15, 2) := by decide +kernel
theorem dX2_sum_134 : decode cX2_sum 134 = .ok (.ishl, 1) := by decide +kernel
theorem dX2_sum_135 : decode cX2_sum 135 = .ok (.ireturn, 1) := by decide +kernel
theorem dX2_useMemory_0 : decode cX2_useMemory 0 = .ok (.iload_n 2, 1) := by decide +kernel
theorem dX2_useMemory_1 : decode cX2_useMemory 1 = .ok (.bipush 26, 2) := by decide +kernel
theorem dX2_useMemory_3 : decode cX2_useMemory 3 = .ok (.iushr, 1) := by decide +kernel
theorem dX2_useMemory_4 : decode cX2_useMemory 4 = .ok (.istore_n 3, 1) := by decide +kernel
theorem dX2_useMemory_5 : decode cX2_useMemory 5 = .ok (.aload_n 0, 1) := by decide +kernel
theorem dX2_useMemory_6 : decode cX2_useMemory 6 = .ok (.aload_n 1, 1) := by decide +kernel
theorem dX2_useMemory_7 : decode cX2_useMemory 7 = .ok (.aload_n 1, 1) := by decide +kernel
theorem dX2_useMemory_8 : decode cX2_useMemory 8 = .ok (.iload_n 2, 1) := by decide +kernel
theorem dX2_useMemory_9 : decode cX2_useMemory 9 = .ok (.invokestatic 105, 3) := by decide +kernel
theorem dX2_useMemory_12 : decode cX2_useMemory 12 = .ok (.iload_n 2, 1) := by decide +kernel
theorem dX2_useMemory_13 : decode cX2_useMemory 13 = .ok (.invokestatic 111, 3) := by decide +kernel
theorem dX2_useMemory_16 : decode cX2_useMemory 16 = .ok (.iadd, 1) := by decide +kernel
theorem dX2_useMemory_17 : decode cX2_useMemory 17 = .ok (.iload_n 3, 1) := by decide +kernel
theorem dX2_useMemory_18 : decode cX2_useMemory 18 = .ok (.bipush 11, 2) := by decide +kernel
theorem dX2_useMemory_20 : decode cX2_useMemory 20 = .ok (.if_icmp .ne 8, 3) := by decide +kernel
theorem dX2_useMemory_23 : decode cX2_useMemory 23 = .ok (.bipush 12, 2) := by decide +kernel
theorem dX2_useMemory_25 : decode cX2_useMemory 25 = .ok (.goto 5, 3) := by decide +kernel
theorem dX2_useMemory_28 : decode cX2_useMemory 28 = .ok (.bipush 13, 2) := by decide +kernel
theorem dX2_useMemory_30 : decode cX2_useMemory 30 = .ok (.invokevirtual 41, 3) := by decide +kernel
theorem dX2_useMemory_33 : decode cX2_useMemory 33 = .ok (.istore 4, 2) := by decide +kernel
theorem dX2_useMemory_35 : decode cX2_useMemory 35 = .ok (.aload_n 0, 1) := by decide +kernel
theorem dX2_useMemory_36 : decode cX2_useMemory 36 = .ok (.getfield 19, 3) := by decide +kernel
theorem dX2_useMemory_39 : decode cX2_useMemory 39 = .ok (.ifCond .eq 4, 3) := by decide +kernel
theorem dX2_useMemory_42 : decode cX2_useMemory 42 = .ok (.return_, 1) := by decide +kernel
theorem dX2_useMemory_43 : decode cX2_useMemory 43 = .ok (.aload_n 1, 1) := by decide +kernel
theorem dX2_useMemory_44 : decode cX2_useMemory 44 = .ok (.iload_n 2, 1) := by decide +kernel
theorem dX2_useMemory_45 : decode cX2_useMemory 45 = .ok (.invokestatic 108, 3) := by decide +kernel
theorem dX2_useMemory_48 : decode cX2_useMemory 48 = .ok (.istore 5, 2) := by decide +kernel
theorem dX2_useMemory_50 : decode cX2_useMemory 50 = .ok (.iload_n 3, 1) := by decide +kernel
theorem dX2_useMemory_51 : decode cX2_useMemory 51 = .ok (.bipush 12, 2) := by decide +kernel
theorem dX2_useMemory_53 : decode cX2_useMemory 53 = .ok (.if_icmp .eq 18, 3) := by decide +kernel
theorem dX2_useMemory_56 : decode cX2_useMemory 56 = .ok (.aload_n 1, 1) := by decide +kernel
theorem dX2_useMemory_57 : decode cX2_useMemory 57 = .ok (.iload_n 2, 1) := by decide +kernel
theorem dX2_useMemory_58 : decode cX2_useMemory 58 = .ok (.aload_n 0, 1) := by decide +kernel
theorem dX2_useMemory_59 : decode cX2_useMemory 59 = .ok (.getfield 9, 3) := by decide +kernel
theorem dX2_useMemory_62 : decode cX2_useMemory 62 = .ok (.aload_n 1, 1) := by decide +kernel
theorem dX2_useMemory_63 : decode cX2_useMemory 63 = .ok (.iload 4, 2) := by decide +kernel
theorem dX2_useMemory_65 : decode cX2_useMemory 65 = .ok (.invokevirtual 45, 3) := by decide +kernel
theorem dX2_useMemory_68 : decode cX2_useMemory 68 = .ok (.invokestatic 54, 3) := by decide +kernel
theorem dX2_useMemory_71 : decode cX2_useMemory 71 = .ok (.iload_n 3, 1) := by decide +kernel
theorem dX2_useMemory_72 : decode cX2_useMemory 72 = .ok (.bipush 11, 2) := by decide +kernel
theorem dX2_useMemory_74 : decode cX2_useMemory 74 = .ok (.if_icmp .eq 15, 3) := by decide +kernel
theorem dX2_useMemory_77 : decode cX2_useMemory 77 = .ok (.aload_n 0, 1) := by decide +kernel
theorem dX2_useMemory_78 : decode cX2_useMemory 78 = .ok (.getfield 9, 3) := by decide +kernel
theorem dX2_useMemory_81 : decode cX2_useMemory 81 = .ok (.aload_n 1, 1) := by decide +kernel
theorem dX2_useMemory_82 : decode cX2_useMemory 82 = .ok (.iload 4, 2) := by decide +kernel
theorem dX2_useMemory_84 : decode cX2_useMemory 84 = .ok (.iload 5, 2) := by decide +kernel
theorem dX2_useMemory_86 : decode cX2_useMemory 86 = .ok (.invokevirtual 102, 3) := by decide +kernel
theorem dX2_useMemory_89 : decode cX2_useMemory 89 = .ok (.return_, 1) := by decide +kernel
theorem dX2_jump_0 : decode cX2_jump 0 = .ok (.aload_n 1, 1) := by decide +kernel
theorem dX2_jump_1 : decode cX2_jump 1 = .ok (.iload_n 2, 1) := by decide +kernel
theorem dX2_jump_2 : decode cX2_jump 2 = .ok (.invokestatic 105, 3) := by decide +kernel
theorem dX2_jump_5 : decode cX2_jump 5 = .ok (.istore_n 3, 1) := by decide +kernel
theorem dX2_jump_6 : decode cX2_jump 6 = .ok (.aload_n 1, 1) := by decide +kernel
theorem dX2_jump_7 : decode cX2_jump 7 = .ok (.iload_n 2, 1) := by decide +kernel
theorem dX2_jump_8 : decode cX2_jump 8 = .ok (.invokestatic 108, 3) := by decide +kernel
theorem dX2_jump_11 : decode cX2_jump 11 = .ok (.istore 4, 2) := by decide +kernel
theorem dX2_jump_13 : decode cX2_jump 13 = .ok (.aload_n 1, 1) := by decide +kernel
theorem dX2_jump_14 : decode cX2_jump 14 = .ok (.getfield 26, 3) := by decide +kernel
theorem dX2_jump_17 : decode cX2_jump 17 = .ok (.iload_n 2, 1) := by decide +kernel
theorem dX2_jump_18 : decode cX2_jump 18 = .ok (.invokestatic 111, 3) := by decide +kernel
theorem dX2_jump_21 : decode cX2_jump 21 = .ok (.iadd, 1) := by decide +kernel
theorem dX2_jump_22 : decode cX2_jump 22 = .ok (.istore 5, 2) := by decide +kernel
theorem dX2_jump_24 : decode cX2_jump 24 = .ok (.iload_n 2, 1) := by decide +kernel
theorem dX2_jump_25 : decode cX2_jump 25 = .ok (.bipush 26, 2) := by decide +kernel
theorem dX2_jump_27 : decode cX2_jump 27 = .ok (.iushr, 1) := by decide +kernel
theorem dX2_jump_28 : decode cX2_jump 28 = .ok (.tableswitch 116 14 17 #[32, 54, 76, 98], 32) := by decide +kernel
theorem dX2_jump_60 : decode cX2_jump 60 = .ok (.aload_n 0, 1) := by decide +kernel
theorem dX2_jump_61 : decode cX2_jump 61 = .ok (.iload_n 3, 1) := by decide +kernel
theorem dX2_jump_62 : decode cX2_jump 62 = .ok (.iload 4, 2) := by decide +kernel
theorem dX2_jump_64 : decode cX2_jump 64 = .ok (.if_icmp .ne 8, 3) := by decide +kernel
theorem dX2_jump_67 : decode cX2_jump 67 = .ok (.iload 5, 2) := by decide +kernel
theorem dX2_jump_69 : decode cX2_jump 69 = .ok (.goto 7, 3) := by decide +kernel
theorem dX2_jump_72 : decode cX2_jump 72 = .ok (.aload_n 0, 1) := by decide +kernel
theorem dX2_jump_73 : decode cX2_jump 73 = .ok (.getfield 31, 3) := by decide +kernel
theorem dX2_jump_76 : decode cX2_jump 76 = .ok (.putfield 31, 3) := by decide +kernel
theorem dX2_jump_79 : decode cX2_jump 79 = .ok (.goto 84, 3) := by decide +kernel
theorem dX2_jump_82 : decode cX2_jump 82 = .ok (.aload_n 0, 1) := by decide +kernel
theorem dX2_jump_83 : decode cX2_jump 83 = .ok (.iload_n 3, 1) := by decide +kernel
theorem dX2_jump_84 : decode cX2_jump 84 = .ok (.iload 4, 2) := by decide +kernel
theorem dX2_jump_86 : decode cX2_jump 86 = .ok (.if_icmp .eq 8, 3) := by decide +kernel
theorem dX2_jump_89 : decode cX2_jump 89 = .ok (.iload 5, 2) := by decide +kernel
theorem dX2_jump_91 : decode cX2_jump 91 = .ok (.goto 7, 3) := by decide +kernel
theorem dX2_jump_94 : decode cX2_jump 94 = .ok (.aload_n 0, 1) := by decide +kernel
theorem dX2_jump_95 : decode cX2_jump 95 = .ok (.getfield 31, 3) := by decide +kernel
theorem dX2_jump_98 : decode cX2_jump 98 = .ok (.putfield 31, 3) := by decide +kernel
theorem dX2_jump_101 : decode cX2_jump 101 = .ok (.goto 62, 3) := by decide +kernel
theorem dX2_jump_104 : decode cX2_jump 104 = .ok (.aload_n 0, 1) := by decide +kernel
theorem dX2_jump_105 : decode cX2_jump 105 = .ok (.iload_n 3, 1) := by decide +kernel
theorem dX2_jump_106 : decode cX2_jump 106 = .ok (.iload 4, 2) := by decide +kernel
theorem dX2_jump_108 : decode cX2_jump 108 = .ok (.if_icmp .ge 8, 3) := by decide +kernel
theorem dX2_jump_111 : decode cX2_jump 111 = .ok (.iload 5, 2) := by decide +kernel
theorem dX2_jump_113 : decode cX2_jump 113 = .ok (.goto 7, 3) := by decide +kernel
theorem dX2_jump_116 : decode cX2_jump 116 = .ok (.aload_n 0, 1) := by decide +kernel
theorem dX2_jump_117 : decode cX2_jump 117 = .ok (.getfield 31, 3) := by decide +kernel
theorem dX2_jump_120 : decode cX2_jump 120 = .ok (.putfield 31, 3) := by decide +kernel
theorem dX2_jump_123 : decode cX2_jump 123 = .ok (.goto 40, 3) := by decide +kernel
theorem dX2_jump_126 : decode cX2_jump 126 = .ok (.aload_n 1, 1) := by decide +kernel
theorem dX2_jump_127 : decode cX2_jump 127 = .ok (.iload_n 2, 1) := by decide +kernel
theorem dX2_jump_128 : decode cX2_jump 128 = .ok (.aload_n 0, 1) := by decide +kernel
theorem dX2_jump_129 : decode cX2_jump 129 = .ok (.getfield 31, 3) := by decide +kernel
theorem dX2_jump_132 : decode cX2_jump 132 = .ok (.invokestatic 54, 3) := by decide +kernel
theorem dX2_jump_135 : decode cX2_jump 135 = .ok (.aload_n 0, 1) := by decide +kernel
theorem dX2_jump_136 : decode cX2_jump 136 = .ok (.iload 5, 2) := by decide +kernel
theorem dX2_jump_138 : decode cX2_jump 138 = .ok (.putfield 31, 3) := by decide +kernel
theorem dX2_jump_141 : decode cX2_jump 141 = .ok (.goto 22, 3) := by decide +kernel
theorem dX2_jump_144 : decode cX2_jump 144 = .ok (.aload_n 1, 1) := by decide +kernel
theorem dX2_jump_145 : decode cX2_jump 145 = .ok (.iload_n 2, 1) := by decide +kernel
theorem dX2_jump_146 : decode cX2_jump 146 = .ok (.aload_n 0, 1) := by decide +kernel
theorem dX2_jump_147 : decode cX2_jump 147 = .ok (.getfield 31, 3) := by decide +kernel
theorem dX2_jump_150 : decode cX2_jump 150 = .ok (.invokestatic 54, 3) := by decide +kernel
theorem dX2_jump_153 : decode cX2_jump 153 = .ok (.aload_n 0, 1) := by decide +kernel
theorem dX2_jump_154 : decode cX2_jump 154 = .ok (.iload_n 3, 1) := by decide +kernel
theorem dX2_jump_155 : decode cX2_jump 155 = .ok (.iload_n 2, 1) := by decide +kernel
theorem dX2_jump_156 : decode cX2_jump 156 = .ok (.invokestatic 111, 3) := by decide +kernel
theorem dX2_jump_159 : decode cX2_jump 159 = .ok (.iadd, 1) := by decide +kernel
theorem dX2_jump_160 : decode cX2_jump 160 = .ok (.putfield 31, 3) := by decide +kernel
theorem dX2_jump_163 : decode cX2_jump 163 = .ok (.return_, 1) := by decide +kernel
theorem dX2_callOrTime_0 : decode cX2_callOrTime 0 = .ok (.iload_n 2, 1) := by decide +kernel
theorem dX2_callOrTime_1 : decode cX2_callOrTime 1 = .ok (.bipush 26, 2) := by decide +kernel
theorem dX2_callOrTime_3 : decode cX2_callOrTime 3 = .ok (.iushr, 1) := by decide +kernel
theorem dX2_callOrTime_4 : decode cX2_callOrTime 4 = .ok (.bipush 19, 2) := by decide +kernel
theorem dX2_callOrTime_6 : decode cX2_callOrTime 6 = .ok (.if_icmp .ne 22, 3) := by decide +kernel
theorem dX2_callOrTime_9 : decode cX2_callOrTime 9 = .ok (.aload_n 0, 1) := by decide +kernel
theorem dX2_callOrTime_10 : decode cX2_callOrTime 10 = .ok (.bipush 8, 2) := by decide +kernel
theorem dX2_callOrTime_12 : decode cX2_callOrTime 12 = .ok (.aload_n 1, 1) := by decide +kernel
theorem dX2_callOrTime_13 : decode cX2_callOrTime 13 = .ok (.getfield 72, 3) := by decide +kernel
theorem dX2_callOrTime_16 : decode cX2_callOrTime 16 = .ok (.iadd, 1) := by decide +kernel
theorem dX2_callOrTime_17 : decode cX2_callOrTime 17 = .ok (.iload_n 2, 1) := by decide +kernel
theorem dX2_callOrTime_18 : decode cX2_callOrTime 18 = .ok (.invokestatic 111, 3) := by decide +kernel
theorem dX2_callOrTime_21 : decode cX2_callOrTime 21 = .ok (.invokevirtual 68, 3) := by decide +kernel
theorem dX2_callOrTime_24 : decode cX2_callOrTime 24 = .ok (.pop, 1) := by decide +kernel
theorem dX2_callOrTime_25 : decode cX2_callOrTime 25 = .ok (.goto 45, 3) := by decide +kernel
theorem dX2_callOrTime_28 : decode cX2_callOrTime 28 = .ok (.aload_n 1, 1) := by decide +kernel
theorem dX2_callOrTime_29 : decode cX2_callOrTime 29 = .ok (.getfield 72, 3) := by decide +kernel
theorem dX2_callOrTime_32 : decode cX2_callOrTime 32 = .ok (.ifCond .ne 26, 3) := by decide +kernel
theorem dX2_callOrTime_35 : decode cX2_callOrTime 35 = .ok (.aload_n 1, 1) := by decide +kernel
theorem dX2_callOrTime_36 : decode cX2_callOrTime 36 = .ok (.getfield 34, 3) := by decide +kernel
theorem dX2_callOrTime_39 : decode cX2_callOrTime 39 = .ok (.iconst 0, 1) := by decide +kernel
theorem dX2_callOrTime_40 : decode cX2_callOrTime 40 = .ok (.iaload, 1) := by decide +kernel
theorem dX2_callOrTime_41 : decode cX2_callOrTime 41 = .ok (.sipush 1024, 3) := by decide +kernel
theorem dX2_callOrTime_44 : decode cX2_callOrTime 44 = .ok (.iand, 1) := by decide +kernel
theorem dX2_callOrTime_45 : decode cX2_callOrTime 45 = .ok (.ifCond .ne 13, 3) := by decide +kernel
theorem dX2_callOrTime_48 : decode cX2_callOrTime 48 = .ok (.aload_n 0, 1) := by decide +kernel
theorem dX2_callOrTime_49 : decode cX2_callOrTime 49 = .ok (.iconst 3, 1) := by decide +kernel
theorem dX2_callOrTime_50 : decode cX2_callOrTime 50 = .ok (.iload_n 2, 1) := by decide +kernel
theorem dX2_callOrTime_51 : decode cX2_callOrTime 51 = .ok (.invokevirtual 68, 3) := by decide +kernel
theorem dX2_callOrTime_54 : decode cX2_callOrTime 54 = .ok (.pop, 1) := by decide +kernel
theorem dX2_callOrTime_55 : decode cX2_callOrTime 55 = .ok (.goto 15, 3) := by decide +kernel
theorem dX2_callOrTime_58 : decode cX2_callOrTime 58 = .ok (.aload_n 1, 1) := by decide +kernel
theorem dX2_callOrTime_59 : decode cX2_callOrTime 59 = .ok (.iload_n 2, 1) := by decide +kernel
theorem dX2_callOrTime_60 : decode cX2_callOrTime 60 = .ok (.aload_n 1, 1) := by decide +kernel
theorem dX2_callOrTime_61 : decode cX2_callOrTime 61 = .ok (.getfield 34, 3) := by decide +kernel
theorem dX2_callOrTime_64 : decode cX2_callOrTime 64 = .ok (.bipush 8, 2) := by decide +kernel
theorem dX2_callOrTime_66 : decode cX2_callOrTime 66 = .ok (.iaload, 1) := by decide +kernel
theorem dX2_callOrTime_67 : decode cX2_callOrTime 67 = .ok (.invokestatic 54, 3) := by decide +kernel
theorem dX2_callOrTime_70 : decode cX2_callOrTime 70 = .ok (.return_, 1) := by decide +kernel
theorem dX2_supervise_0 : decode cX2_supervise 0 = .ok (.aload_n 1, 1) := by decide +kernel
theorem dX2_supervise_1 : decode cX2_supervise 1 = .ok (.iload_n 2, 1) := by decide +kernel
theorem dX2_supervise_2 : decode cX2_supervise 2 = .ok (.invokestatic 105, 3) := by decide +kernel
theorem dX2_supervise_5 : decode cX2_supervise 5 = .ok (.istore_n 3, 1) := by decide +kernel
theorem dX2_supervise_6 : decode cX2_supervise 6 = .ok (.iload_n 2, 1) := by decide +kernel
theorem dX2_supervise_7 : decode cX2_supervise 7 = .ok (.bipush 26, 2) := by decide +kernel
theorem dX2_supervise_9 : decode cX2_supervise 9 = .ok (.iushr, 1) := by decide +kernel
theorem dX2_supervise_10 : decode cX2_supervise 10 = .ok (.tableswitch 134 21 28 #[46, 55, 64, 81, 88, 102, 110, 118], 46) := by decide +kernel
theorem dX2_supervise_56 : decode cX2_supervise 56 = .ok (.aload_n 0, 1) := by decide +kernel
theorem dX2_supervise_57 : decode cX2_supervise 57 = .ok (.aload_n 1, 1) := by decide +kernel
theorem dX2_supervise_58 : decode cX2_supervise 58 = .ok (.iload_n 2, 1) := by decide +kernel
theorem dX2_supervise_59 : decode cX2_supervise 59 = .ok (.invokevirtual 115, 3) := by decide +kernel
theorem dX2_supervise_62 : decode cX2_supervise 62 = .ok (.goto 92, 3) := by decide +kernel
theorem dX2_supervise_65 : decode cX2_supervise 65 = .ok (.aload_n 0, 1) := by decide +kernel
theorem dX2_supervise_66 : decode cX2_supervise 66 = .ok (.aload_n 1, 1) := by decide +kernel
theorem dX2_supervise_67 : decode cX2_supervise 67 = .ok (.iload_n 2, 1) := by decide +kernel
theorem dX2_supervise_68 : decode cX2_supervise 68 = .ok (.invokevirtual 118, 3) := by decide +kernel
theorem dX2_supervise_71 : decode cX2_supervise 71 = .ok (.goto 83, 3) := by decide +kernel
theorem dX2_supervise_74 : decode cX2_supervise 74 = .ok (.aload_n 1, 1) := by decide +kernel
theorem dX2_supervise_75 : decode cX2_supervise 75 = .ok (.invokevirtual 121, 3) := by decide +kernel
theorem dX2_supervise_78 : decode cX2_supervise 78 = .ok (.aload_n 0, 1) := by decide +kernel
theorem dX2_supervise_79 : decode cX2_supervise 79 = .ok (.aload_n 1, 1) := by decide +kernel
theorem dX2_supervise_80 : decode cX2_supervise 80 = .ok (.getfield 34, 3) := by decide +kernel
theorem dX2_supervise_83 : decode cX2_supervise 83 = .ok (.iconst 2, 1) := by decide +kernel
theorem dX2_supervise_84 : decode cX2_supervise 84 = .ok (.iaload, 1) := by decide +kernel
theorem dX2_supervise_85 : decode cX2_supervise 85 = .ok (.putfield 31, 3) := by decide +kernel
theorem dX2_supervise_88 : decode cX2_supervise 88 = .ok (.goto 66, 3) := by decide +kernel
theorem dX2_supervise_91 : decode cX2_supervise 91 = .ok (.aload_n 1, 1) := by decide +kernel
theorem dX2_supervise_92 : decode cX2_supervise 92 = .ok (.invokevirtual 124, 3) := by decide +kernel
theorem dX2_supervise_95 : decode cX2_supervise 95 = .ok (.goto 59, 3) := by decide +kernel
theorem dX2_supervise_98 : decode cX2_supervise 98 = .ok (.aload_n 1, 1) := by decide +kernel
theorem dX2_supervise_99 : decode cX2_supervise 99 = .ok (.getfield 96, 3) := by decide +kernel
theorem dX2_supervise_102 : decode cX2_supervise 102 = .ok (.iload_n 3, 1) := by decide +kernel
theorem dX2_supervise_103 : decode cX2_supervise 103 = .ok (.sipush 255, 3) := by decide +kernel
theorem dX2_supervise_106 : decode cX2_supervise 106 = .ok (.iand, 1) := by decide +kernel
theorem dX2_supervise_107 : decode cX2_supervise 107 = .ok (.iconst (-1), 1) := by decide +kernel
theorem dX2_supervise_108 : decode cX2_supervise 108 = .ok (.iastore, 1) := by decide +kernel
theorem dX2_supervise_109 : decode cX2_supervise 109 = .ok (.goto 45, 3) := by decide +kernel
theorem dX2_supervise_112 : decode cX2_supervise 112 = .ok (.aload_n 0, 1) := by decide +kernel
theorem dX2_supervise_113 : decode cX2_supervise 113 = .ok (.aload_n 1, 1) := by decide +kernel
theorem dX2_supervise_114 : decode cX2_supervise 114 = .ok (.invokevirtual 127, 3) := by decide +kernel
theorem dX2_supervise_117 : decode cX2_supervise 117 = .ok (.goto 37, 3) := by decide +kernel
theorem dX2_supervise_120 : decode cX2_supervise 120 = .ok (.aload_n 1, 1) := by decide +kernel
theorem dX2_supervise_121 : decode cX2_supervise 121 = .ok (.iconst 3, 1) := by decide +kernel
theorem dX2_supervise_122 : decode cX2_supervise 122 = .ok (.putfield 131, 3) := by decide +kernel
theorem dX2_supervise_125 : decode cX2_supervise 125 = .ok (.goto 29, 3) := by decide +kernel
theorem dX2_supervise_128 : decode cX2_supervise 128 = .ok (.aload_n 1, 1) := by decide +kernel
theorem dX2_supervise_129 : decode cX2_supervise 129 = .ok (.iload_n 2, 1) := by decide +kernel
theorem dX2_supervise_130 : decode cX2_supervise 130 = .ok (.aload_n 1, 1) := by decide +kernel
theorem dX2_supervise_131 : decode cX2_supervise 131 = .ok (.iload_n 2, 1) := by decide +kernel
theorem dX2_supervise_132 : decode cX2_supervise 132 = .ok (.invokestatic 111, 3) := by decide +kernel
theorem dX2_supervise_135 : decode cX2_supervise 135 = .ok (.invokestatic 134, 3) := by decide +kernel
theorem dX2_supervise_138 : decode cX2_supervise 138 = .ok (.invokestatic 54, 3) := by decide +kernel
theorem dX2_supervise_141 : decode cX2_supervise 141 = .ok (.goto 13, 3) := by decide +kernel
theorem dX2_supervise_144 : decode cX2_supervise 144 = .ok (.aload_n 0, 1) := by decide +kernel
theorem dX2_supervise_145 : decode cX2_supervise 145 = .ok (.aload_n 1, 1) := by decide +kernel
theorem dX2_supervise_146 : decode cX2_supervise 146 = .ok (.iload_n 3, 1) := by decide +kernel
theorem dX2_supervise_147 : decode cX2_supervise 147 = .ok (.iload_n 2, 1) := by decide +kernel
theorem dX2_supervise_148 : decode cX2_supervise 148 = .ok (.invokestatic 111, 3) := by decide +kernel
theorem dX2_supervise_151 : decode cX2_supervise 151 = .ok (.invokevirtual 137, 3) := by decide +kernel
theorem dX2_supervise_154 : decode cX2_supervise 154 = .ok (.return_, 1) := by decide +kernel
theorem dX2_readControl_0 : decode cX2_readControl 0 = .ok (.iload_n 2, 1) := by decide +kernel
theorem dX2_readControl_1 : decode cX2_readControl 1 = .ok (.invokestatic 111, 3) := by decide +kernel
theorem dX2_readControl_4 : decode cX2_readControl 4 = .ok (.istore_n 3, 1) := by decide +kernel
theorem dX2_readControl_5 : decode cX2_readControl 5 = .ok (.iload_n 3, 1) := by decide +kernel
theorem dX2_readControl_6 : decode cX2_readControl 6 = .ok (.ifCond .lt 9, 3) := by decide +kernel
theorem dX2_readControl_9 : decode cX2_readControl 9 = .ok (.iload_n 3, 1) := by decide +kernel
theorem dX2_readControl_10 : decode cX2_readControl 10 = .ok (.bipush 10, 2) := by decide +kernel
theorem dX2_readControl_12 : decode cX2_readControl 12 = .ok (.if_icmp .lt 13, 3) := by decide +kernel
theorem dX2_readControl_15 : decode cX2_readControl 15 = .ok (.aload_n 0, 1) := by decide +kernel
theorem dX2_readControl_16 : decode cX2_readControl 16 = .ok (.iconst 2, 1) := by decide +kernel
theorem dX2_readControl_17 : decode cX2_readControl 17 = .ok (.iload_n 2, 1) := by decide +kernel
theorem dX2_readControl_18 : decode cX2_readControl 18 = .ok (.invokevirtual 68, 3) := by decide +kernel
theorem dX2_readControl_21 : decode cX2_readControl 21 = .ok (.pop, 1) := by decide +kernel
theorem dX2_readControl_22 : decode cX2_readControl 22 = .ok (.goto 14, 3) := by decide +kernel
theorem dX2_readControl_25 : decode cX2_readControl 25 = .ok (.aload_n 1, 1) := by decide +kernel
theorem dX2_readControl_26 : decode cX2_readControl 26 = .ok (.iload_n 2, 1) := by decide +kernel
theorem dX2_readControl_27 : decode cX2_readControl 27 = .ok (.aload_n 1, 1) := by decide +kernel
theorem dX2_readControl_28 : decode cX2_readControl 28 = .ok (.getfield 34, 3) := by decide +kernel
theorem dX2_readControl_31 : decode cX2_readControl 31 = .ok (.iload_n 3, 1) := by decide +kernel
theorem dX2_readControl_32 : decode cX2_readControl 32 = .ok (.iaload, 1) := by decide +kernel
theorem dX2_readControl_33 : decode cX2_readControl 33 = .ok (.invokestatic 54, 3) := by decide +kernel
theorem dX2_readControl_36 : decode cX2_readControl 36 = .ok (.return_, 1) := by decide +kernel
theorem dX2_writeControl_0 : decode cX2_writeControl 0 = .ok (.iload_n 2, 1) := by decide +kernel
theorem dX2_writeControl_1 : decode cX2_writeControl 1 = .ok (.invokestatic 111, 3) := by decide +kernel
theorem dX2_writeControl_4 : decode cX2_writeControl 4 = .ok (.istore_n 3, 1) := by decide +kernel
theorem dX2_writeControl_5 : decode cX2_writeControl 5 = .ok (.aload_n 1, 1) := by decide +kernel
theorem dX2_writeControl_6 : decode cX2_writeControl 6 = .ok (.iload_n 2, 1) := by decide +kernel
theorem dX2_writeControl_7 : decode cX2_writeControl 7 = .ok (.invokestatic 105, 3) := by decide +kernel
theorem dX2_writeControl_10 : decode cX2_writeControl 10 = .ok (.istore 4, 2) := by decide +kernel
theorem dX2_writeControl_12 : decode cX2_writeControl 12 = .ok (.iload_n 3, 1) := by decide +kernel
theorem dX2_writeControl_13 : decode cX2_writeControl 13 = .ok (.ifCond .lt 9, 3) := by decide +kernel
theorem dX2_writeControl_16 : decode cX2_writeControl 16 = .ok (.iload_n 3, 1) := by decide +kernel
theorem dX2_writeControl_17 : decode cX2_writeControl 17 = .ok (.bipush 9, 2) := by decide +kernel
theorem dX2_writeControl_19 : decode cX2_writeControl 19 = .ok (.if_icmp .lt 13, 3) := by decide +kernel
theorem dX2_writeControl_22 : decode cX2_writeControl 22 = .ok (.aload_n 0, 1) := by decide +kernel
theorem dX2_writeControl_23 : decode cX2_writeControl 23 = .ok (.iconst 2, 1) := by decide +kernel
theorem dX2_writeControl_24 : decode cX2_writeControl 24 = .ok (.iload_n 2, 1) := by decide +kernel
theorem dX2_writeControl_25 : decode cX2_writeControl 25 = .ok (.invokevirtual 68, 3) := by decide +kernel
theorem dX2_writeControl_28 : decode cX2_writeControl 28 = .ok (.pop, 1) := by decide +kernel
theorem dX2_writeControl_29 : decode cX2_writeControl 29 = .ok (.goto 50, 3) := by decide +kernel
theorem dX2_writeControl_32 : decode cX2_writeControl 32 = .ok (.iload_n 3, 1) := by decide +kernel
theorem dX2_writeControl_33 : decode cX2_writeControl 33 = .ok (.bipush 8, 2) := by decide +kernel
theorem dX2_writeControl_35 : decode cX2_writeControl 35 = .ok (.if_icmp .ne 14, 3) := by decide +kernel
theorem dX2_writeControl_38 : decode cX2_writeControl 38 = .ok (.aload_n 0, 1) := by decide +kernel
theorem dX2_writeControl_39 : decode cX2_writeControl 39 = .ok (.iload 4, 2) := by decide +kernel
theorem dX2_writeControl_41 : decode cX2_writeControl 41 = .ok (.iconst 1, 1) := by decide +kernel
theorem dX2_writeControl_42 : decode cX2_writeControl 42 = .ok (.iadd, 1) := by decide +kernel
theorem dX2_writeControl_43 : decode cX2_writeControl 43 = .ok (.putfield 38, 3) := by decide +kernel
theorem dX2_writeControl_46 : decode cX2_writeControl 46 = .ok (.goto 33, 3) := by decide +kernel
theorem dX2_writeControl_49 : decode cX2_writeControl 49 = .ok (.aload_n 1, 1) := by decide +kernel
theorem dX2_writeControl_50 : decode cX2_writeControl 50 = .ok (.getfield 34, 3) := by decide +kernel
theorem dX2_writeControl_53 : decode cX2_writeControl 53 = .ok (.iload_n 3, 1) := by decide +kernel
theorem dX2_writeControl_54 : decode cX2_writeControl 54 = .ok (.iload_n 3, 1) := by decide +kernel
theorem dX2_writeControl_55 : decode cX2_writeControl 55 = .ok (.ifCond .ne 12, 3) := by decide +kernel
theorem dX2_writeControl_58 : decode cX2_writeControl 58 = .ok (.iload 4, 2) := by decide +kernel
theorem dX2_writeControl_60 : decode cX2_writeControl 60 = .ok (.sipush 1799, 3) := by decide +kernel
theorem dX2_writeControl_63 : decode cX2_writeControl 63 = .ok (.iand, 1) := by decide +kernel
theorem dX2_writeControl_64 : decode cX2_writeControl 64 = .ok (.goto 5, 3) := by decide +kernel
theorem dX2_writeControl_67 : decode cX2_writeControl 67 = .ok (.iload 4, 2) := by decide +kernel
theorem dX2_writeControl_69 : decode cX2_writeControl 69 = .ok (.iastore, 1) := by decide +kernel
theorem dX2_writeControl_70 : decode cX2_writeControl 70 = .ok (.iload_n 3, 1) := by decide +kernel
theorem dX2_writeControl_71 : decode cX2_writeControl 71 = .ok (.iconst 5, 1) := by decide +kernel
theorem dX2_writeControl_72 : decode cX2_writeControl 72 = .ok (.if_icmp .ne 7, 3) := by decide +kernel
theorem dX2_writeControl_75 : decode cX2_writeControl 75 = .ok (.aload_n 1, 1) := by decide +kernel
theorem dX2_writeControl_76 : decode cX2_writeControl 76 = .ok (.invokevirtual 124, 3) := by decide +kernel
theorem dX2_writeControl_79 : decode cX2_writeControl 79 = .ok (.return_, 1) := by decide +kernel
theorem dX2_waitForLine_0 : decode cX2_waitForLine 0 = .ok (.aload_n 1, 1) := by decide +kernel
theorem dX2_waitForLine_1 : decode cX2_waitForLine 1 = .ok (.invokevirtual 85, 3) := by decide +kernel
theorem dX2_waitForLine_4 : decode cX2_waitForLine 4 = .ok (.ifCond .ne 10, 3) := by decide +kernel
theorem dX2_waitForLine_7 : decode cX2_waitForLine 7 = .ok (.aload_n 1, 1) := by decide +kernel
theorem dX2_waitForLine_8 : decode cX2_waitForLine 8 = .ok (.getfield 89, 3) := by decide +kernel
theorem dX2_waitForLine_11 : decode cX2_waitForLine 11 = .ok (.ifCond .le 4, 3) := by decide +kernel
theorem dX2_waitForLine_14 : decode cX2_waitForLine 14 = .ok (.return_, 1) := by decide +kernel
theorem dX2_waitForLine_15 : decode cX2_waitForLine 15 = .ok (.aload_n 1, 1) := by decide +kernel
theorem dX2_waitForLine_16 : decode cX2_waitForLine 16 = .ok (.getfield 34, 3) := by decide +kernel
theorem dX2_waitForLine_19 : decode cX2_waitForLine 19 = .ok (.bipush 6, 2) := by decide +kernel
theorem dX2_waitForLine_21 : decode cX2_waitForLine 21 = .ok (.iaload, 1) := by decide +kernel
theorem dX2_waitForLine_22 : decode cX2_waitForLine 22 = .ok (.ifCond .eq 17, 3) := by decide +kernel
theorem dX2_waitForLine_25 : decode cX2_waitForLine 25 = .ok (.aload_n 0, 1) := by decide +kernel
theorem dX2_waitForLine_26 : decode cX2_waitForLine 26 = .ok (.aload_n 1, 1) := by decide +kernel
theorem dX2_waitForLine_27 : decode cX2_waitForLine 27 = .ok (.getfield 34, 3) := by decide +kernel
theorem dX2_waitForLine_30 : decode cX2_waitForLine 30 = .ok (.bipush 6, 2) := by decide +kernel
theorem dX2_waitForLine_32 : decode cX2_waitForLine 32 = .ok (.iaload, 1) := by decide +kernel
theorem dX2_waitForLine_33 : decode cX2_waitForLine 33 = .ok (.putfield 38, 3) := by decide +kernel
theorem dX2_waitForLine_36 : decode cX2_waitForLine 36 = .ok (.goto 8, 3) := by decide +kernel
theorem dX2_waitForLine_39 : decode cX2_waitForLine 39 = .ok (.aload_n 1, 1) := by decide +kernel
theorem dX2_waitForLine_40 : decode cX2_waitForLine 40 = .ok (.iconst 2, 1) := by decide +kernel
theorem dX2_waitForLine_41 : decode cX2_waitForLine 41 = .ok (.putfield 131, 3) := by decide +kernel
theorem dX2_waitForLine_44 : decode cX2_waitForLine 44 = .ok (.return_, 1) := by decide +kernel
theorem dX2_takeIn_0 : decode cX2_takeIn 0 = .ok (.iload_n 1, 1) := by decide +kernel
theorem dX2_takeIn_1 : decode cX2_takeIn 1 = .ok (.tableswitch 51 0 3 #[31, 36, 41, 46], 31) := by decide +kernel
theorem dX2_takeIn_32 : decode cX2_takeIn 32 = .ok (.aload_n 0, 1) := by decide +kernel
theorem dX2_takeIn_33 : decode cX2_takeIn 33 = .ok (.invokevirtual 140, 3) := by decide +kernel
theorem dX2_takeIn_36 : decode cX2_takeIn 36 = .ok (.ireturn, 1) := by decide +kernel
theorem dX2_takeIn_37 : decode cX2_takeIn 37 = .ok (.aload_n 0, 1) := by decide +kernel
theorem dX2_takeIn_38 : decode cX2_takeIn 38 = .ok (.getfield 89, 3) := by decide +kernel
theorem dX2_takeIn_41 : decode cX2_takeIn 41 = .ok (.ireturn, 1) := by decide +kernel
theorem dX2_takeIn_42 : decode cX2_takeIn 42 = .ok (.aload_n 0, 1) := by decide +kernel
theorem dX2_takeIn_43 : decode cX2_takeIn 43 = .ok (.getfield 144, 3) := by decide +kernel
theorem dX2_takeIn_46 : decode cX2_takeIn 46 = .ok (.ireturn, 1) := by decide +kernel
theorem dX2_takeIn_47 : decode cX2_takeIn 47 = .ok (.aload_n 0, 1) := by decide +kernel
theorem dX2_takeIn_48 : decode cX2_takeIn 48 = .ok (.getfield 147, 3) := by decide +kernel
theorem dX2_takeIn_51 : decode cX2_takeIn 51 = .ok (.ireturn, 1) := by decide +kernel
theorem dX2_takeIn_52 : decode cX2_takeIn 52 = .ok (.iconst 0, 1) := by decide +kernel
theorem dX2_takeIn_53 : decode cX2_takeIn 53 = .ok (.ireturn, 1) := by decide +kernel
theorem dX2_giveOut_0 : decode cX2_giveOut 0 = .ok (.iload_n 3, 1) := by decide +kernel
theorem dX2_giveOut_1 : decode cX2_giveOut 1 = .ok (.ifCond .ne 11, 3) := by decide +kernel
theorem dX2_giveOut_4 : decode cX2_giveOut 4 = .ok (.aload_n 1, 1) := by decide +kernel
theorem dX2_giveOut_5 : decode cX2_giveOut 5 = .ok (.iload_n 2, 1) := by decide +kernel
theorem dX2_giveOut_6 : decode cX2_giveOut 6 = .ok (.invokevirtual 150, 3) := by decide +kernel
theorem dX2_giveOut_9 : decode cX2_giveOut 9 = .ok (.goto 78, 3) := by decide +kernel
theorem dX2_giveOut_12 : decode cX2_giveOut 12 = .ok (.iload_n 3, 1) := by decide +kernel
theorem dX2_giveOut_13 : decode cX2_giveOut 13 = .ok (.iconst 1, 1) := by decide +kernel
theorem dX2_giveOut_14 : decode cX2_giveOut 14 = .ok (.if_icmp .ne 11, 3) := by decide +kernel
theorem dX2_giveOut_17 : decode cX2_giveOut 17 = .ok (.aload_n 1, 1) := by decide +kernel
theorem dX2_giveOut_18 : decode cX2_giveOut 18 = .ok (.iload_n 2, 1) := by decide +kernel
theorem dX2_giveOut_19 : decode cX2_giveOut 19 = .ok (.putfield 147, 3) := by decide +kernel
theorem dX2_giveOut_22 : decode cX2_giveOut 22 = .ok (.goto 65, 3) := by decide +kernel
theorem dX2_giveOut_25 : decode cX2_giveOut 25 = .ok (.iload_n 3, 1) := by decide +kernel
theorem dX2_giveOut_26 : decode cX2_giveOut 26 = .ok (.iconst 2, 1) := by decide +kernel
theorem dX2_giveOut_27 : decode cX2_giveOut 27 = .ok (.if_icmp .ne 60, 3) := by decide +kernel
theorem dX2_giveOut_30 : decode cX2_giveOut 30 = .ok (.aload_n 1, 1) := by decide +kernel
theorem dX2_giveOut_31 : decode cX2_giveOut 31 = .ok (.getfield 147, 3) := by decide +kernel
theorem dX2_giveOut_34 : decode cX2_giveOut 34 = .ok (.ifCond .lt 53, 3) := by decide +kernel
theorem dX2_giveOut_37 : decode cX2_giveOut 37 = .ok (.aload_n 1, 1) := by decide +kernel
theorem dX2_giveOut_38 : decode cX2_giveOut 38 = .ok (.getfield 147, 3) := by decide +kernel
theorem dX2_giveOut_41 : decode cX2_giveOut 41 = .ok (.aload_n 1, 1) := by decide +kernel
theorem dX2_giveOut_42 : decode cX2_giveOut 42 = .ok (.getfield 99, 3) := by decide +kernel
theorem dX2_giveOut_45 : decode cX2_giveOut 45 = .ok (.if_icmp .ge 42, 3) := by decide +kernel
theorem dX2_giveOut_48 : decode cX2_giveOut 48 = .ok (.iload_n 2, 1) := by decide +kernel
theorem dX2_giveOut_49 : decode cX2_giveOut 49 = .ok (.iconst 1, 1) := by decide +kernel
theorem dX2_giveOut_50 : decode cX2_giveOut 50 = .ok (.iand, 1) := by decide +kernel
theorem dX2_giveOut_51 : decode cX2_giveOut 51 = .ok (.ifCond .eq 21, 3) := by decide +kernel
theorem dX2_giveOut_54 : decode cX2_giveOut 54 = .ok (.aload_n 0, 1) := by decide +kernel
theorem dX2_giveOut_55 : decode cX2_giveOut 55 = .ok (.getfield 9, 3) := by decide +kernel
theorem dX2_giveOut_58 : decode cX2_giveOut 58 = .ok (.aload_n 1, 1) := by decide +kernel
theorem dX2_giveOut_59 : decode cX2_giveOut 59 = .ok (.aload_n 1, 1) := by decide +kernel
theorem dX2_giveOut_60 : decode cX2_giveOut 60 = .ok (.getfield 147, 3) := by decide +kernel
theorem dX2_giveOut_63 : decode cX2_giveOut 63 = .ok (.iload_n 2, 1) := by decide +kernel
theorem dX2_giveOut_64 : decode cX2_giveOut 64 = .ok (.iconst 1, 1) := by decide +kernel
theorem dX2_giveOut_65 : decode cX2_giveOut 65 = .ok (.ishr, 1) := by decide +kernel
theorem dX2_giveOut_66 : decode cX2_giveOut 66 = .ok (.invokevirtual 154, 3) := by decide +kernel
theorem dX2_giveOut_69 : decode cX2_giveOut 69 = .ok (.goto 18, 3) := by decide +kernel
theorem dX2_giveOut_72 : decode cX2_giveOut 72 = .ok (.aload_n 0, 1) := by decide +kernel
theorem dX2_giveOut_73 : decode cX2_giveOut 73 = .ok (.getfield 9, 3) := by decide +kernel
theorem dX2_giveOut_76 : decode cX2_giveOut 76 = .ok (.aload_n 1, 1) := by decide +kernel
theorem dX2_giveOut_77 : decode cX2_giveOut 77 = .ok (.aload_n 1, 1) := by decide +kernel
theorem dX2_giveOut_78 : decode cX2_giveOut 78 = .ok (.getfield 147, 3) := by decide +kernel
theorem dX2_giveOut_81 : decode cX2_giveOut 81 = .ok (.iload_n 2, 1) := by decide +kernel
theorem dX2_giveOut_82 : decode cX2_giveOut 82 = .ok (.iconst 1, 1) := by decide +kernel
theorem dX2_giveOut_83 : decode cX2_giveOut 83 = .ok (.ishr, 1) := by decide +kernel
theorem dX2_giveOut_84 : decode cX2_giveOut 84 = .ok (.invokevirtual 157, 3) := by decide +kernel
theorem dX2_giveOut_87 : decode cX2_giveOut 87 = .ok (.return_, 1) := by decide +kernel
