theorem dX4_init_0 : decode cX4_init 0 = .ok (.aload_n 0, 1) := by decide +kernel
theorem dX4_init_1 : decode cX4_init 1 = .ok (.invokespecial 3, 3) := by decide +kernel
theorem dX4_init_4 : decode cX4_init 4 = .ok (.aload_n 0, 1) := by decide +kernel
theorem dX4_init_5 : decode cX4_init 5 = .ok (.sipush 4096, 3) := by decide +kernel
theorem dX4_init_8 : decode cX4_init 8 = .ok (.newarray .int, 2) := by decide +kernel
theorem dX4_init_10 : decode cX4_init 10 = .ok (.putfield 9, 3) := by decide +kernel
theorem dX4_init_13 : decode cX4_init 13 = .ok (.aload_n 0, 1) := by decide +kernel
theorem dX4_init_14 : decode cX4_init 14 = .ok (.sipush 1024, 3) := by decide +kernel
theorem dX4_init_17 : decode cX4_init 17 = .ok (.newarray .int, 2) := by decide +kernel
theorem dX4_init_19 : decode cX4_init 19 = .ok (.putfield 15, 3) := by decide +kernel
theorem dX4_init_22 : decode cX4_init 22 = .ok (.aload_n 0, 1) := by decide +kernel
theorem dX4_init_23 : decode cX4_init 23 = .ok (.bipush 8, 2) := by decide +kernel
theorem dX4_init_25 : decode cX4_init 25 = .ok (.newarray .int, 2) := by decide +kernel
theorem dX4_init_27 : decode cX4_init 27 = .ok (.putfield 18, 3) := by decide +kernel
theorem dX4_init_30 : decode cX4_init 30 = .ok (.aload_n 0, 1) := by decide +kernel
theorem dX4_init_31 : decode cX4_init 31 = .ok (.bipush 9, 2) := by decide +kernel
theorem dX4_init_33 : decode cX4_init 33 = .ok (.newarray .int, 2) := by decide +kernel
theorem dX4_init_35 : decode cX4_init 35 = .ok (.putfield 21, 3) := by decide +kernel
theorem dX4_init_38 : decode cX4_init 38 = .ok (.aload_n 0, 1) := by decide +kernel
theorem dX4_init_39 : decode cX4_init 39 = .ok (.sipush 256, 3) := by decide +kernel
theorem dX4_init_42 : decode cX4_init 42 = .ok (.newarray .int, 2) := by decide +kernel
theorem dX4_init_44 : decode cX4_init 44 = .ok (.putfield 24, 3) := by decide +kernel
theorem dX4_init_47 : decode cX4_init 47 = .ok (.aload_n 0, 1) := by decide +kernel
theorem dX4_init_48 : decode cX4_init 48 = .ok (.sipush 256, 3) := by decide +kernel
theorem dX4_init_51 : decode cX4_init 51 = .ok (.newarray .int, 2) := by decide +kernel
theorem dX4_init_53 : decode cX4_init 53 = .ok (.putfield 27, 3) := by decide +kernel
theorem dX4_init_56 : decode cX4_init 56 = .ok (.aload_n 0, 1) := by decide +kernel
theorem dX4_init_57 : decode cX4_init 57 = .ok (.bipush 64, 2) := by decide +kernel
theorem dX4_init_59 : decode cX4_init 59 = .ok (.newarray .int, 2) := by decide +kernel
theorem dX4_init_61 : decode cX4_init 61 = .ok (.putfield 30, 3) := by decide +kernel
theorem dX4_init_64 : decode cX4_init 64 = .ok (.aload_n 0, 1) := by decide +kernel
theorem dX4_init_65 : decode cX4_init 65 = .ok (.sipush 1000, 3) := by decide +kernel
theorem dX4_init_68 : decode cX4_init 68 = .ok (.newarray .int, 2) := by decide +kernel
theorem dX4_init_70 : decode cX4_init 70 = .ok (.putfield 33, 3) := by decide +kernel
theorem dX4_init_73 : decode cX4_init 73 = .ok (.return_, 1) := by decide +kernel
theorem dX4_make_0 : decode cX4_make 0 = .ok (.aload_n 0, 1) := by decide +kernel
theorem dX4_make_1 : decode cX4_make 1 = .ok (.iload_n 1, 1) := by decide +kernel
theorem dX4_make_2 : decode cX4_make 2 = .ok (.putfield 36, 3) := by decide +kernel
theorem dX4_make_5 : decode cX4_make 5 = .ok (.aload_n 0, 1) := by decide +kernel
theorem dX4_make_6 : decode cX4_make 6 = .ok (.iconst 1, 1) := by decide +kernel
theorem dX4_make_7 : decode cX4_make 7 = .ok (.putfield 40, 3) := by decide +kernel
theorem dX4_make_10 : decode cX4_make 10 = .ok (.iconst 0, 1) := by decide +kernel
theorem dX4_make_11 : decode cX4_make 11 = .ok (.istore_n 2, 1) := by decide +kernel
theorem dX4_make_12 : decode cX4_make 12 = .ok (.iload_n 2, 1) := by decide +kernel
theorem dX4_make_13 : decode cX4_make 13 = .ok (.aload_n 0, 1) := by decide +kernel
theorem dX4_make_14 : decode cX4_make 14 = .ok (.getfield 9, 3) := by decide +kernel
theorem dX4_make_17 : decode cX4_make 17 = .ok (.arraylength, 1) := by decide +kernel
theorem dX4_make_18 : decode cX4_make 18 = .ok (.if_icmp .ge 16, 3) := by decide +kernel
theorem dX4_make_21 : decode cX4_make 21 = .ok (.aload_n 0, 1) := by decide +kernel
theorem dX4_make_22 : decode cX4_make 22 = .ok (.getfield 9, 3) := by decide +kernel
theorem dX4_make_25 : decode cX4_make 25 = .ok (.iload_n 2, 1) := by decide +kernel
theorem dX4_make_26 : decode cX4_make 26 = .ok (.iconst 0, 1) := by decide +kernel
theorem dX4_make_27 : decode cX4_make 27 = .ok (.iastore, 1) := by decide +kernel
theorem dX4_make_28 : decode cX4_make 28 = .ok (.iinc 2 1, 3) := by decide +kernel
theorem dX4_make_31 : decode cX4_make 31 = .ok (.goto (-19), 3) := by decide +kernel
theorem dX4_make_34 : decode cX4_make 34 = .ok (.iconst 0, 1) := by decide +kernel
theorem dX4_make_35 : decode cX4_make 35 = .ok (.istore_n 2, 1) := by decide +kernel
theorem dX4_make_36 : decode cX4_make 36 = .ok (.iload_n 2, 1) := by decide +kernel
theorem dX4_make_37 : decode cX4_make 37 = .ok (.sipush 1024, 3) := by decide +kernel
theorem dX4_make_40 : decode cX4_make 40 = .ok (.if_icmp .ge 16, 3) := by decide +kernel
theorem dX4_make_43 : decode cX4_make 43 = .ok (.aload_n 0, 1) := by decide +kernel
theorem dX4_make_44 : decode cX4_make 44 = .ok (.getfield 15, 3) := by decide +kernel
theorem dX4_make_47 : decode cX4_make 47 = .ok (.iload_n 2, 1) := by decide +kernel
theorem dX4_make_48 : decode cX4_make 48 = .ok (.iconst 0, 1) := by decide +kernel
theorem dX4_make_49 : decode cX4_make 49 = .ok (.iastore, 1) := by decide +kernel
theorem dX4_make_50 : decode cX4_make 50 = .ok (.iinc 2 1, 3) := by decide +kernel
theorem dX4_make_53 : decode cX4_make 53 = .ok (.goto (-17), 3) := by decide +kernel
theorem dX4_make_56 : decode cX4_make 56 = .ok (.aload_n 0, 1) := by decide +kernel
theorem dX4_make_57 : decode cX4_make 57 = .ok (.iconst 0, 1) := by decide +kernel
theorem dX4_make_58 : decode cX4_make 58 = .ok (.putfield 44, 3) := by decide +kernel
theorem dX4_make_61 : decode cX4_make 61 = .ok (.aload_n 0, 1) := by decide +kernel
theorem dX4_make_62 : decode cX4_make 62 = .ok (.iconst 0, 1) := by decide +kernel
theorem dX4_make_63 : decode cX4_make 63 = .ok (.putfield 47, 3) := by decide +kernel
theorem dX4_make_66 : decode cX4_make 66 = .ok (.aload_n 0, 1) := by decide +kernel
theorem dX4_make_67 : decode cX4_make 67 = .ok (.iconst 0, 1) := by decide +kernel
theorem dX4_make_68 : decode cX4_make 68 = .ok (.invokevirtual 50, 3) := by decide +kernel
theorem dX4_make_71 : decode cX4_make 71 = .ok (.aload_n 0, 1) := by decide +kernel
theorem dX4_make_72 : decode cX4_make 72 = .ok (.iconst 0, 1) := by decide +kernel
theorem dX4_make_73 : decode cX4_make 73 = .ok (.putfield 54, 3) := by decide +kernel
theorem dX4_make_76 : decode cX4_make 76 = .ok (.aload_n 0, 1) := by decide +kernel
theorem dX4_make_77 : decode cX4_make 77 = .ok (.iconst 0, 1) := by decide +kernel
theorem dX4_make_78 : decode cX4_make 78 = .ok (.putfield 57, 3) := by decide +kernel
theorem dX4_make_81 : decode cX4_make 81 = .ok (.return_, 1) := by decide +kernel
theorem dX4_copy_0 : decode cX4_copy 0 = .ok (.aload_n 0, 1) := by decide +kernel
theorem dX4_copy_1 : decode cX4_copy 1 = .ok (.aload_n 1, 1) := by decide +kernel
theorem dX4_copy_2 : decode cX4_copy 2 = .ok (.getfield 36, 3) := by decide +kernel
theorem dX4_copy_5 : decode cX4_copy 5 = .ok (.putfield 36, 3) := by decide +kernel
theorem dX4_copy_8 : decode cX4_copy 8 = .ok (.aload_n 0, 1) := by decide +kernel
theorem dX4_copy_9 : decode cX4_copy 9 = .ok (.iconst 1, 1) := by decide +kernel
theorem dX4_copy_10 : decode cX4_copy 10 = .ok (.putfield 40, 3) := by decide +kernel
theorem dX4_copy_13 : decode cX4_copy 13 = .ok (.iconst 0, 1) := by decide +kernel
theorem dX4_copy_14 : decode cX4_copy 14 = .ok (.istore_n 2, 1) := by decide +kernel
theorem dX4_copy_15 : decode cX4_copy 15 = .ok (.iload_n 2, 1) := by decide +kernel
theorem dX4_copy_16 : decode cX4_copy 16 = .ok (.aload_n 0, 1) := by decide +kernel
theorem dX4_copy_17 : decode cX4_copy 17 = .ok (.getfield 9, 3) := by decide +kernel
theorem dX4_copy_20 : decode cX4_copy 20 = .ok (.arraylength, 1) := by decide +kernel
theorem dX4_copy_21 : decode cX4_copy 21 = .ok (.if_icmp .ge 21, 3) := by decide +kernel
theorem dX4_copy_24 : decode cX4_copy 24 = .ok (.aload_n 0, 1) := by decide +kernel
theorem dX4_copy_25 : decode cX4_copy 25 = .ok (.getfield 9, 3) := by decide +kernel
theorem dX4_copy_28 : decode cX4_copy 28 = .ok (.iload_n 2, 1) := by decide +kernel
theorem dX4_copy_29 : decode cX4_copy 29 = .ok (.aload_n 1, 1) := by decide +kernel
theorem dX4_copy_30 : decode cX4_copy 30 = .ok (.getfield 9, 3) := by decide +kernel
theorem dX4_copy_33 : decode cX4_copy 33 = .ok (.iload_n 2, 1) := by decide +kernel
theorem dX4_copy_34 : decode cX4_copy 34 = .ok (.iaload, 1) := by decide +kernel
theorem dX4_copy_35 : decode cX4_copy 35 = .ok (.iastore, 1) := by decide +kernel
theorem dX4_copy_36 : decode cX4_copy 36 = .ok (.iinc 2 1, 3) := by decide +kernel
theorem dX4_copy_39 : decode cX4_copy 39 = .ok (.goto (-24), 3) := by decide +kernel
theorem dX4_copy_42 : decode cX4_copy 42 = .ok (.iconst 0, 1) := by decide +kernel
theorem dX4_copy_43 : decode cX4_copy 43 = .ok (.istore_n 2, 1) := by decide +kernel
theorem dX4_copy_44 : decode cX4_copy 44 = .ok (.iload_n 2, 1) := by decide +kernel
theorem dX4_copy_45 : decode cX4_copy 45 = .ok (.sipush 1024, 3) := by decide +kernel
theorem dX4_copy_48 : decode cX4_copy 48 = .ok (.if_icmp .ge 21, 3) := by decide +kernel
theorem dX4_copy_51 : decode cX4_copy 51 = .ok (.aload_n 0, 1) := by decide +kernel
theorem dX4_copy_52 : decode cX4_copy 52 = .ok (.getfield 15, 3) := by decide +kernel
theorem dX4_copy_55 : decode cX4_copy 55 = .ok (.iload_n 2, 1) := by decide +kernel
theorem dX4_copy_56 : decode cX4_copy 56 = .ok (.aload_n 1, 1) := by decide +kernel
theorem dX4_copy_57 : decode cX4_copy 57 = .ok (.getfield 15, 3) := by decide +kernel
theorem dX4_copy_60 : decode cX4_copy 60 = .ok (.iload_n 2, 1) := by decide +kernel
theorem dX4_copy_61 : decode cX4_copy 61 = .ok (.iaload, 1) := by decide +kernel
theorem dX4_copy_62 : decode cX4_copy 62 = .ok (.iastore, 1) := by decide +kernel
theorem dX4_copy_63 : decode cX4_copy 63 = .ok (.iinc 2 1, 3) := by decide +kernel
theorem dX4_copy_66 : decode cX4_copy 66 = .ok (.goto (-22), 3) := by decide +kernel
theorem dX4_copy_69 : decode cX4_copy 69 = .ok (.iconst 0, 1) := by decide +kernel
theorem dX4_copy_70 : decode cX4_copy 70 = .ok (.istore_n 2, 1) := by decide +kernel
theorem dX4_copy_71 : decode cX4_copy 71 = .ok (.iload_n 2, 1) := by decide +kernel
theorem dX4_copy_72 : decode cX4_copy 72 = .ok (.bipush 8, 2) := by decide +kernel
theorem dX4_copy_74 : decode cX4_copy 74 = .ok (.if_icmp .ge 21, 3) := by decide +kernel
theorem dX4_copy_77 : decode cX4_copy 77 = .ok (.aload_n 0, 1) := by decide +kernel
theorem dX4_copy_78 : decode cX4_copy 78 = .ok (.getfield 18, 3) := by decide +kernel
theorem dX4_copy_81 : decode cX4_copy 81 = .ok (.iload_n 2, 1) := by decide +kernel
theorem dX4_copy_82 : decode cX4_copy 82 = .ok (.aload_n 1, 1) := by decide +kernel
theorem dX4_copy_83 : decode cX4_copy 83 = .ok (.getfield 18, 3) := by decide +kernel
theorem dX4_copy_86 : decode cX4_copy 86 = .ok (.iload_n 2, 1) := by decide +kernel
theorem dX4_copy_87 : decode cX4_copy 87 = .ok (.iaload, 1) := by decide +kernel
theorem dX4_copy_88 : decode cX4_copy 88 = .ok (.iastore, 1) := by decide +kernel
theorem dX4_copy_89 : decode cX4_copy 89 = .ok (.iinc 2 1, 3) := by decide +kernel
theorem dX4_copy_92 : decode cX4_copy 92 = .ok (.goto (-21), 3) := by decide +kernel
theorem dX4_copy_95 : decode cX4_copy 95 = .ok (.iconst 0, 1) := by decide +kernel
theorem dX4_copy_96 : decode cX4_copy 96 = .ok (.istore_n 2, 1) := by decide +kernel
theorem dX4_copy_97 : decode cX4_copy 97 = .ok (.iload_n 2, 1) := by decide +kernel
theorem dX4_copy_98 : decode cX4_copy 98 = .ok (.bipush 9, 2) := by decide +kernel
theorem dX4_copy_100 : decode cX4_copy 100 = .ok (.if_icmp .ge 21, 3) := by decide +kernel
theorem dX4_copy_103 : decode cX4_copy 103 = .ok (.aload_n 0, 1) := by decide +kernel
theorem dX4_copy_104 : decode cX4_copy 104 = .ok (.getfield 21, 3) := by decide +kernel
theorem dX4_copy_107 : decode cX4_copy 107 = .ok (.iload_n 2, 1) := by decide +kernel
theorem dX4_copy_108 : decode cX4_copy 108 = .ok (.aload_n 1, 1) := by decide +kernel
theorem dX4_copy_109 : decode cX4_copy 109 = .ok (.getfield 21, 3) := by decide +kernel
theorem dX4_copy_112 : decode cX4_copy 112 = .ok (.iload_n 2, 1) := by decide +kernel
theorem dX4_copy_113 : decode cX4_copy 113 = .ok (.iaload, 1) := by decide +kernel
theorem dX4_copy_114 : decode cX4_copy 114 = .ok (.iastore, 1) := by decide +kernel
theorem dX4_copy_115 : decode cX4_copy 115 = .ok (.iinc 2 1, 3) := by decide +kernel
theorem dX4_copy_118 : decode cX4_copy 118 = .ok (.goto (-21), 3) := by decide +kernel
theorem dX4_copy_121 : decode cX4_copy 121 = .ok (.iconst 0, 1) := by decide +kernel
theorem dX4_copy_122 : decode cX4_copy 122 = .ok (.istore_n 2, 1) := by decide +kernel
theorem dX4_copy_123 : decode cX4_copy 123 = .ok (.iload_n 2, 1) := by decide +kernel
theorem dX4_copy_124 : decode cX4_copy 124 = .ok (.sipush 256, 3) := by decide +kernel
theorem dX4_copy_127 : decode cX4_copy 127 = .ok (.if_icmp .ge 33, 3) := by decide +kernel
theorem dX4_copy_130 : decode cX4_copy 130 = .ok (.aload_n 0, 1) := by decide +kernel
theorem dX4_copy_131 : decode cX4_copy 131 = .ok (.getfield 24, 3) := by decide +kernel
theorem dX4_copy_134 : decode cX4_copy 134 = .ok (.iload_n 2, 1) := by decide +kernel
theorem dX4_copy_135 : decode cX4_copy 135 = .ok (.aload_n 1, 1) := by decide +kernel
theorem dX4_copy_136 : decode cX4_copy 136 = .ok (.getfield 24, 3) := by decide +kernel
theorem dX4_copy_139 : decode cX4_copy 139 = .ok (.iload_n 2, 1) := by decide +kernel
theorem dX4_copy_140 : decode cX4_copy 140 = .ok (.iaload, 1) := by decide +kernel
theorem dX4_copy_141 : decode cX4_copy 141 = .ok (.iastore, 1) := by decide +kernel
theorem dX4_copy_142 : decode cX4_copy 142 = .ok (.aload_n 0, 1) := by decide +kernel
theorem dX4_copy_143 : decode cX4_copy 143 = .ok (.getfield 27, 3) := by decide +kernel
theorem dX4_copy_146 : decode cX4_copy 146 = .ok (.iload_n 2, 1) := by decide +kernel
theorem dX4_copy_147 : decode cX4_copy 147 = .ok (.aload_n 1, 1) := by decide +kernel
theorem dX4_copy_148 : decode cX4_copy 148 = .ok (.getfield 27, 3) := by decide +kernel
theorem dX4_copy_151 : decode cX4_copy 151 = .ok (.iload_n 2, 1) := by decide +kernel
theorem dX4_copy_152 : decode cX4_copy 152 = .ok (.iaload, 1) := by decide +kernel
theorem dX4_copy_153 : decode cX4_copy 153 = .ok (.iastore, 1) := by decide +kernel
theorem dX4_copy_154 : decode cX4_copy 154 = .ok (.iinc 2 1, 3) := by decide +kernel
theorem dX4_copy_157 : decode cX4_copy 157 = .ok (.goto (-34), 3) := by decide +kernel
theorem dX4_copy_160 : decode cX4_copy 160 = .ok (.iconst 0, 1) := by decide +kernel
theorem dX4_copy_161 : decode cX4_copy 161 = .ok (.istore_n 2, 1) := by decide +kernel
theorem dX4_copy_162 : decode cX4_copy 162 = .ok (.iload_n 2, 1) := by decide +kernel
theorem dX4_copy_163 : decode cX4_copy 163 = .ok (.bipush 64, 2) := by decide +kernel
theorem dX4_copy_165 : decode cX4_copy 165 = .ok (.if_icmp .ge 21, 3) := by decide +kernel
theorem dX4_copy_168 : decode cX4_copy 168 = .ok (.aload_n 0, 1) := by decide +kernel
theorem dX4_copy_169 : decode cX4_copy 169 = .ok (.getfield 30, 3) := by decide +kernel
theorem dX4_copy_172 : decode cX4_copy 172 = .ok (.iload_n 2, 1) := by decide +kernel
theorem dX4_copy_173 : decode cX4_copy 173 = .ok (.aload_n 1, 1) := by decide +kernel
theorem dX4_copy_174 : decode cX4_copy 174 = .ok (.getfield 30, 3) := by decide +kernel
theorem dX4_copy_177 : decode cX4_copy 177 = .ok (.iload_n 2, 1) := by decide +kernel
theorem dX4_copy_178 : decode cX4_copy 178 = .ok (.iaload, 1) := by decide +kernel
theorem dX4_copy_179 : decode cX4_copy 179 = .ok (.iastore, 1) := by decide +kernel
theorem dX4_copy_180 : decode cX4_copy 180 = .ok (.iinc 2 1, 3) := by decide +kernel
theorem dX4_copy_183 : decode cX4_copy 183 = .ok (.goto (-21), 3) := by decide +kernel
theorem dX4_copy_186 : decode cX4_copy 186 = .ok (.iconst 0, 1) := by decide +kernel
theorem dX4_copy_187 : decode cX4_copy 187 = .ok (.istore_n 2, 1) := by decide +kernel
theorem dX4_copy_188 : decode cX4_copy 188 = .ok (.iload_n 2, 1) := by decide +kernel
theorem dX4_copy_189 : decode cX4_copy 189 = .ok (.sipush 1000, 3) := by decide +kernel
theorem dX4_copy_192 : decode cX4_copy 192 = .ok (.if_icmp .ge 21, 3) := by decide +kernel
theorem dX4_copy_195 : decode cX4_copy 195 = .ok (.aload_n 0, 1) := by decide +kernel
theorem dX4_copy_196 : decode cX4_copy 196 = .ok (.getfield 33, 3) := by decide +kernel
theorem dX4_copy_199 : decode cX4_copy 199 = .ok (.iload_n 2, 1) := by decide +kernel
theorem dX4_copy_200 : decode cX4_copy 200 = .ok (.aload_n 1, 1) := by decide +kernel
theorem dX4_copy_201 : decode cX4_copy 201 = .ok (.getfield 33, 3) := by decide +kernel
theorem dX4_copy_204 : decode cX4_copy 204 = .ok (.iload_n 2, 1) := by decide +kernel
theorem dX4_copy_205 : decode cX4_copy 205 = .ok (.iaload, 1) := by decide +kernel
theorem dX4_copy_206 : decode cX4_copy 206 = .ok (.iastore, 1) := by decide +kernel
theorem dX4_copy_207 : decode cX4_copy 207 = .ok (.iinc 2 1, 3) := by decide +kernel
theorem dX4_copy_210 : decode cX4_copy 210 = .ok (.goto (-22), 3) := by decide +kernel
theorem dX4_copy_213 : decode cX4_copy 213 = .ok (.aload_n 0, 1) := by decide +kernel
theorem dX4_copy_214 : decode cX4_copy 214 = .ok (.aload_n 1, 1) := by decide +kernel
theorem dX4_copy_215 : decode cX4_copy 215 = .ok (.getfield 60, 3) := by decide +kernel
theorem dX4_copy_218 : decode cX4_copy 218 = .ok (.putfield 60, 3) := by decide +kernel
theorem dX4_copy_221 : decode cX4_copy 221 = .ok (.aload_n 0, 1) := by decide +kernel
theorem dX4_copy_222 : decode cX4_copy 222 = .ok (.aload_n 1, 1) := by decide +kernel
theorem dX4_copy_223 : decode cX4_copy 223 = .ok (.getfield 54, 3) := by decide +kernel
theorem dX4_copy_226 : decode cX4_copy 226 = .ok (.putfield 54, 3) := by decide +kernel
theorem dX4_copy_229 : decode cX4_copy 229 = .ok (.aload_n 0, 1) := by decide +kernel
theorem dX4_copy_230 : decode cX4_copy 230 = .ok (.aload_n 1, 1) := by decide +kernel
theorem dX4_copy_231 : decode cX4_copy 231 = .ok (.getfield 57, 3) := by decide +kernel
theorem dX4_copy_234 : decode cX4_copy 234 = .ok (.putfield 57, 3) := by decide +kernel
theorem dX4_copy_237 : decode cX4_copy 237 = .ok (.aload_n 0, 1) := by decide +kernel
theorem dX4_copy_238 : decode cX4_copy 238 = .ok (.aload_n 1, 1) := by decide +kernel
theorem dX4_copy_239 : decode cX4_copy 239 = .ok (.getfield 63, 3) := by decide +kernel
theorem dX4_copy_242 : decode cX4_copy 242 = .ok (.putfield 63, 3) := by decide +kernel
theorem dX4_copy_245 : decode cX4_copy 245 = .ok (.aload_n 0, 1) := by decide +kernel
theorem dX4_copy_246 : decode cX4_copy 246 = .ok (.aload_n 1, 1) := by decide +kernel
theorem dX4_copy_247 : decode cX4_copy 247 = .ok (.getfield 44, 3) := by decide +kernel
theorem dX4_copy_250 : decode cX4_copy 250 = .ok (.putfield 44, 3) := by decide +kernel
theorem dX4_copy_253 : decode cX4_copy 253 = .ok (.aload_n 0, 1) := by decide +kernel
theorem dX4_copy_254 : decode cX4_copy 254 = .ok (.aload_n 1, 1) := by decide +kernel
theorem dX4_copy_255 : decode cX4_copy 255 = .ok (.getfield 47, 3) := by decide +kernel
theorem dX4_copy_258 : decode cX4_copy 258 = .ok (.putfield 47, 3) := by decide +kernel
theorem dX4_copy_261 : decode cX4_copy 261 = .ok (.aload_n 0, 1) := by decide +kernel
theorem dX4_copy_262 : decode cX4_copy 262 = .ok (.aload_n 1, 1) := by decide +kernel
theorem dX4_copy_263 : decode cX4_copy 263 = .ok (.getfield 66, 3) := by decide +kernel
theorem dX4_copy_266 : decode cX4_copy 266 = .ok (.putfield 66, 3) := by decide +kernel
theorem dX4_copy_269 : decode cX4_copy 269 = .ok (.return_, 1) := by decide +kernel
theorem dX4_start_0 : decode cX4_start 0 = .ok (.iconst 0, 1) := by decide +kernel
theorem dX4_start_1 : decode cX4_start 1 = .ok (.istore_n 2, 1) := by decide +kernel
theorem dX4_start_2 : decode cX4_start 2 = .ok (.iload_n 2, 1) := by decide +kernel
theorem dX4_start_3 : decode cX4_start 3 = .ok (.bipush 8, 2) := by decide +kernel
theorem dX4_start_5 : decode cX4_start 5 = .ok (.if_icmp .ge 16, 3) := by decide +kernel
theorem dX4_start_8 : decode cX4_start 8 = .ok (.aload_n 0, 1) := by decide +kernel
theorem dX4_start_9 : decode cX4_start 9 = .ok (.getfield 18, 3) := by decide +kernel
theorem dX4_start_12 : decode cX4_start 12 = .ok (.iload_n 2, 1) := by decide +kernel
theorem dX4_start_13 : decode cX4_start 13 = .ok (.iconst 0, 1) := by decide +kernel
theorem dX4_start_14 : decode cX4_start 14 = .ok (.iastore, 1) := by decide +kernel
theorem dX4_start_15 : decode cX4_start 15 = .ok (.iinc 2 1, 3) := by decide +kernel
theorem dX4_start_18 : decode cX4_start 18 = .ok (.goto (-16), 3) := by decide +kernel
theorem dX4_start_21 : decode cX4_start 21 = .ok (.iconst 0, 1) := by decide +kernel
theorem dX4_start_22 : decode cX4_start 22 = .ok (.istore_n 2, 1) := by decide +kernel
theorem dX4_start_23 : decode cX4_start 23 = .ok (.iload_n 2, 1) := by decide +kernel
theorem dX4_start_24 : decode cX4_start 24 = .ok (.bipush 9, 2) := by decide +kernel
theorem dX4_start_26 : decode cX4_start 26 = .ok (.if_icmp .ge 16, 3) := by decide +kernel
theorem dX4_start_29 : decode cX4_start 29 = .ok (.aload_n 0, 1) := by decide +kernel
theorem dX4_start_30 : decode cX4_start 30 = .ok (.getfield 21, 3) := by decide +kernel
theorem dX4_start_33 : decode cX4_start 33 = .ok (.iload_n 2, 1) := by decide +kernel
theorem dX4_start_34 : decode cX4_start 34 = .ok (.iconst 0, 1) := by decide +kernel
theorem dX4_start_35 : decode cX4_start 35 = .ok (.iastore, 1) := by decide +kernel
theorem dX4_start_36 : decode cX4_start 36 = .ok (.iinc 2 1, 3) := by decide +kernel
theorem dX4_start_39 : decode cX4_start 39 = .ok (.goto (-16), 3) := by decide +kernel
theorem dX4_start_42 : decode cX4_start 42 = .ok (.aload_n 0, 1) := by decide +kernel
theorem dX4_start_43 : decode cX4_start 43 = .ok (.invokevirtual 69, 3) := by decide +kernel
theorem dX4_start_46 : decode cX4_start 46 = .ok (.aload_n 0, 1) := by decide +kernel
theorem dX4_start_47 : decode cX4_start 47 = .ok (.iconst 0, 1) := by decide +kernel
theorem dX4_start_48 : decode cX4_start 48 = .ok (.putfield 63, 3) := by decide +kernel
theorem dX4_start_51 : decode cX4_start 51 = .ok (.aload_n 0, 1) := by decide +kernel
theorem dX4_start_52 : decode cX4_start 52 = .ok (.iconst 1, 1) := by decide +kernel
theorem dX4_start_53 : decode cX4_start 53 = .ok (.putfield 54, 3) := by decide +kernel
theorem dX4_start_56 : decode cX4_start 56 = .ok (.aload_n 0, 1) := by decide +kernel
theorem dX4_start_57 : decode cX4_start 57 = .ok (.iload_n 1, 1) := by decide +kernel
theorem dX4_start_58 : decode cX4_start 58 = .ok (.putfield 60, 3) := by decide +kernel
theorem dX4_start_61 : decode cX4_start 61 = .ok (.aload_n 0, 1) := by decide +kernel
theorem dX4_start_62 : decode cX4_start 62 = .ok (.iconst 0, 1) := by decide +kernel
theorem dX4_start_63 : decode cX4_start 63 = .ok (.putfield 66, 3) := by decide +kernel
theorem dX4_start_66 : decode cX4_start 66 = .ok (.aload_n 0, 1) := by decide +kernel
theorem dX4_start_67 : decode cX4_start 67 = .ok (.iconst 1, 1) := by decide +kernel
theorem dX4_start_68 : decode cX4_start 68 = .ok (.putfield 57, 3) := by decide +kernel
theorem dX4_start_71 : decode cX4_start 71 = .ok (.return_, 1) := by decide +kernel
theorem dX4_forget_0 : decode cX4_forget 0 = .ok (.iconst 0, 1) := by decide +kernel
theorem dX4_forget_1 : decode cX4_forget 1 = .ok (.istore_n 1, 1) := by decide +kernel
theorem dX4_forget_2 : decode cX4_forget 2 = .ok (.iload_n 1, 1) := by decide +kernel
theorem dX4_forget_3 : decode cX4_forget 3 = .ok (.sipush 256, 3) := by decide +kernel
theorem dX4_forget_6 : decode cX4_forget 6 = .ok (.if_icmp .ge 16, 3) := by decide +kernel
theorem dX4_forget_9 : decode cX4_forget 9 = .ok (.aload_n 0, 1) := by decide +kernel
theorem dX4_forget_10 : decode cX4_forget 10 = .ok (.getfield 24, 3) := by decide +kernel
theorem dX4_forget_13 : decode cX4_forget 13 = .ok (.iload_n 1, 1) := by decide +kernel
theorem dX4_forget_14 : decode cX4_forget 14 = .ok (.iconst (-1), 1) := by decide +kernel
theorem dX4_forget_15 : decode cX4_forget 15 = .ok (.iastore, 1) := by decide +kernel
theorem dX4_forget_16 : decode cX4_forget 16 = .ok (.iinc 1 1, 3) := by decide +kernel
theorem dX4_forget_19 : decode cX4_forget 19 = .ok (.goto (-17), 3) := by decide +kernel
theorem dX4_forget_22 : decode cX4_forget 22 = .ok (.return_, 1) := by decide +kernel
theorem dX4_isMemory_0 : decode cX4_isMemory 0 = .ok (.iload_n 1, 1) := by decide +kernel
theorem dX4_isMemory_1 : decode cX4_isMemory 1 = .ok (.bipush 64, 2) := by decide +kernel
theorem dX4_isMemory_3 : decode cX4_isMemory 3 = .ok (.aload_n 0, 1) := by decide +kernel
theorem dX4_isMemory_4 : decode cX4_isMemory 4 = .ok (.getfield 36, 3) := by decide +kernel
theorem dX4_isMemory_7 : decode cX4_isMemory 7 = .ok (.imul, 1) := by decide +kernel
theorem dX4_isMemory_8 : decode cX4_isMemory 8 = .ok (.invokestatic 72, 3) := by decide +kernel
theorem dX4_isMemory_11 : decode cX4_isMemory 11 = .ok (.ireturn, 1) := by decide +kernel
theorem dX4_hasStatus_0 : decode cX4_hasStatus 0 = .ok (.aload_n 0, 1) := by decide +kernel
theorem dX4_hasStatus_1 : decode cX4_hasStatus 1 = .ok (.getfield 21, 3) := by decide +kernel
theorem dX4_hasStatus_4 : decode cX4_hasStatus 4 = .ok (.iconst 0, 1) := by decide +kernel
theorem dX4_hasStatus_5 : decode cX4_hasStatus 5 = .ok (.iaload, 1) := by decide +kernel
theorem dX4_hasStatus_6 : decode cX4_hasStatus 6 = .ok (.iload_n 1, 1) := by decide +kernel
theorem dX4_hasStatus_7 : decode cX4_hasStatus 7 = .ok (.ishr, 1) := by decide +kernel
theorem dX4_hasStatus_8 : decode cX4_hasStatus 8 = .ok (.iconst 1, 1) := by decide +kernel
theorem dX4_hasStatus_9 : decode cX4_hasStatus 9 = .ok (.iand, 1) := by decide +kernel
theorem dX4_hasStatus_10 : decode cX4_hasStatus 10 = .ok (.iconst 1, 1) := by decide +kernel
theorem dX4_hasStatus_11 : decode cX4_hasStatus 11 = .ok (.if_icmp .ne 7, 3) := by decide +kernel
theorem dX4_hasStatus_14 : decode cX4_hasStatus 14 = .ok (.iconst 1, 1) := by decide +kernel
theorem dX4_hasStatus_15 : decode cX4_hasStatus 15 = .ok (.goto 4, 3) := by decide +kernel
theorem dX4_hasStatus_18 : decode cX4_hasStatus 18 = .ok (.iconst 0, 1) := by decide +kernel
theorem dX4_hasStatus_19 : decode cX4_hasStatus 19 = .ok (.ireturn, 1) := by decide +kernel
theorem dX4_isTimeUp_0 : decode cX4_isTimeUp 0 = .ok (.aload_n 0, 1) := by decide +kernel
theorem dX4_isTimeUp_1 : decode cX4_isTimeUp 1 = .ok (.getfield 21, 3) := by decide +kernel
theorem dX4_isTimeUp_4 : decode cX4_isTimeUp 4 = .ok (.bipush 6, 2) := by decide +kernel
theorem dX4_isTimeUp_6 : decode cX4_isTimeUp 6 = .ok (.iaload, 1) := by decide +kernel
theorem dX4_isTimeUp_7 : decode cX4_isTimeUp 7 = .ok (.ifCond .eq 25, 3) := by decide +kernel
theorem dX4_isTimeUp_10 : decode cX4_isTimeUp 10 = .ok (.aload_n 0, 1) := by decide +kernel
theorem dX4_isTimeUp_11 : decode cX4_isTimeUp 11 = .ok (.getfield 21, 3) := by decide +kernel
theorem dX4_isTimeUp_14 : decode cX4_isTimeUp 14 = .ok (.bipush 8, 2) := by decide +kernel
theorem dX4_isTimeUp_16 : decode cX4_isTimeUp 16 = .ok (.iaload, 1) := by decide +kernel
theorem dX4_isTimeUp_17 : decode cX4_isTimeUp 17 = .ok (.aload_n 0, 1) := by decide +kernel
theorem dX4_isTimeUp_18 : decode cX4_isTimeUp 18 = .ok (.getfield 21, 3) := by decide +kernel
theorem dX4_isTimeUp_21 : decode cX4_isTimeUp 21 = .ok (.bipush 6, 2) := by decide +kernel
theorem dX4_isTimeUp_23 : decode cX4_isTimeUp 23 = .ok (.iaload, 1) := by decide +kernel
theorem dX4_isTimeUp_24 : decode cX4_isTimeUp 24 = .ok (.isub, 1) := by decide +kernel
theorem dX4_isTimeUp_25 : decode cX4_isTimeUp 25 = .ok (.ifCond .lt 7, 3) := by decide +kernel
theorem dX4_isTimeUp_28 : decode cX4_isTimeUp 28 = .ok (.iconst 1, 1) := by decide +kernel
theorem dX4_isTimeUp_29 : decode cX4_isTimeUp 29 = .ok (.goto 4, 3) := by decide +kernel
theorem dX4_isTimeUp_32 : decode cX4_isTimeUp 32 = .ok (.iconst 0, 1) := by decide +kernel
theorem dX4_isTimeUp_33 : decode cX4_isTimeUp 33 = .ok (.ireturn, 1) := by decide +kernel
theorem dX4_step_0 : decode cX4_step 0 = .ok (.aload_n 0, 1) := by decide +kernel
theorem dX4_step_1 : decode cX4_step 1 = .ok (.iconst 0, 1) := by decide +kernel
theorem dX4_step_2 : decode cX4_step 2 = .ok (.putfield 76, 3) := by decide +kernel
theorem dX4_step_5 : decode cX4_step 5 = .ok (.aload_n 0, 1) := by decide +kernel
theorem dX4_step_6 : decode cX4_step 6 = .ok (.iconst 0, 1) := by decide +kernel
theorem dX4_step_7 : decode cX4_step 7 = .ok (.invokevirtual 79, 3) := by decide +kernel
theorem dX4_step_10 : decode cX4_step 10 = .ok (.ifCond .eq 29, 3) := by decide +kernel
theorem dX4_step_13 : decode cX4_step 13 = .ok (.aload_n 0, 1) := by decide +kernel
theorem dX4_step_14 : decode cX4_step 14 = .ok (.bipush 8, 2) := by decide +kernel
theorem dX4_step_16 : decode cX4_step 16 = .ok (.invokevirtual 79, 3) := by decide +kernel
theorem dX4_step_19 : decode cX4_step 19 = .ok (.ifCond .eq 20, 3) := by decide +kernel
theorem dX4_step_22 : decode cX4_step 22 = .ok (.aload_n 0, 1) := by decide +kernel
theorem dX4_step_23 : decode cX4_step 23 = .ok (.invokevirtual 83, 3) := by decide +kernel
theorem dX4_step_26 : decode cX4_step 26 = .ok (.ifCond .eq 13, 3) := by decide +kernel
theorem dX4_step_29 : decode cX4_step 29 = .ok (.aload_n 0, 1) := by decide +kernel
theorem dX4_step_30 : decode cX4_step 30 = .ok (.bipush 16, 2) := by decide +kernel
theorem dX4_step_32 : decode cX4_step 32 = .ok (.iconst 0, 1) := by decide +kernel
theorem dX4_step_33 : decode cX4_step 33 = .ok (.invokevirtual 87, 3) := by decide +kernel
theorem dX4_step_36 : decode cX4_step 36 = .ok (.goto 65, 3) := by decide +kernel
theorem dX4_step_39 : decode cX4_step 39 = .ok (.aload_n 0, 1) := by decide +kernel
theorem dX4_step_40 : decode cX4_step 40 = .ok (.iconst 0, 1) := by decide +kernel
theorem dX4_step_41 : decode cX4_step 41 = .ok (.invokevirtual 79, 3) := by decide +kernel
theorem dX4_step_44 : decode cX4_step 44 = .ok (.ifCond .eq 29, 3) := by decide +kernel
theorem dX4_step_47 : decode cX4_step 47 = .ok (.aload_n 0, 1) := by decide +kernel
theorem dX4_step_48 : decode cX4_step 48 = .ok (.bipush 9, 2) := by decide +kernel
theorem dX4_step_50 : decode cX4_step 50 = .ok (.invokevirtual 79, 3) := by decide +kernel
theorem dX4_step_53 : decode cX4_step 53 = .ok (.ifCond .eq 20, 3) := by decide +kernel
theorem dX4_step_56 : decode cX4_step 56 = .ok (.aload_n 0, 1) := by decide +kernel
theorem dX4_step_57 : decode cX4_step 57 = .ok (.getfield 44, 3) := by decide +kernel
theorem dX4_step_60 : decode cX4_step 60 = .ok (.ifCond .le 13, 3) := by decide +kernel
theorem dX4_step_63 : decode cX4_step 63 = .ok (.aload_n 0, 1) := by decide +kernel
theorem dX4_step_64 : decode cX4_step 64 = .ok (.bipush 17, 2) := by decide +kernel
theorem dX4_step_66 : decode cX4_step 66 = .ok (.iconst 0, 1) := by decide +kernel
theorem dX4_step_67 : decode cX4_step 67 = .ok (.invokevirtual 87, 3) := by decide +kernel
theorem dX4_step_70 : decode cX4_step 70 = .ok (.goto 31, 3) := by decide +kernel
theorem dX4_step_73 : decode cX4_step 73 = .ok (.aload_n 0, 1) := by decide +kernel
theorem dX4_step_74 : decode cX4_step 74 = .ok (.aload_n 0, 1) := by decide +kernel
theorem dX4_step_75 : decode cX4_step 75 = .ok (.getfield 60, 3) := by decide +kernel
theorem dX4_step_78 : decode cX4_step 78 = .ok (.bipush 11, 2) := by decide +kernel
theorem dX4_step_80 : decode cX4_step 80 = .ok (.invokevirtual 91, 3) := by decide +kernel
theorem dX4_step_83 : decode cX4_step 83 = .ok (.istore_n 1, 1) := by decide +kernel
theorem dX4_step_84 : decode cX4_step 84 = .ok (.aload_n 0, 1) := by decide +kernel
theorem dX4_step_85 : decode cX4_step 85 = .ok (.getfield 76, 3) := by decide +kernel
theorem dX4_step_88 : decode cX4_step 88 = .ok (.ifCond .ne 13, 3) := by decide +kernel
theorem dX4_step_91 : decode cX4_step 91 = .ok (.aload_n 0, 1) := by decide +kernel
theorem dX4_step_92 : decode cX4_step 92 = .ok (.aload_n 0, 1) := by decide +kernel
theorem dX4_step_93 : decode cX4_step 93 = .ok (.getfield 9, 3) := by decide +kernel
theorem dX4_step_96 : decode cX4_step 96 = .ok (.iload_n 1, 1) := by decide +kernel
theorem dX4_step_97 : decode cX4_step 97 = .ok (.iaload, 1) := by decide +kernel
theorem dX4_step_98 : decode cX4_step 98 = .ok (.invokevirtual 95, 3) := by decide +kernel
theorem dX4_step_101 : decode cX4_step 101 = .ok (.aload_n 0, 1) := by decide +kernel
theorem dX4_step_102 : decode cX4_step 102 = .ok (.getfield 76, 3) := by decide +kernel
theorem dX4_step_105 : decode cX4_step 105 = .ok (.ifCond .ne 4, 3) := by decide +kernel
theorem dX4_step_108 : decode cX4_step 108 = .ok (.return_, 1) := by decide +kernel
theorem dX4_step_109 : decode cX4_step 109 = .ok (.aload_n 0, 1) := by decide +kernel
theorem dX4_step_110 : decode cX4_step 110 = .ok (.getfield 21, 3) := by decide +kernel
theorem dX4_step_113 : decode cX4_step 113 = .ok (.iconst 1, 1) := by decide +kernel
theorem dX4_step_114 : decode cX4_step 114 = .ok (.aload_n 0, 1) := by decide +kernel
theorem dX4_step_115 : decode cX4_step 115 = .ok (.getfield 76, 3) := by decide +kernel
theorem dX4_step_118 : decode cX4_step 118 = .ok (.iastore, 1) := by decide +kernel
theorem dX4_step_119 : decode cX4_step 119 = .ok (.aload_n 0, 1) := by decide +kernel
theorem dX4_step_120 : decode cX4_step 120 = .ok (.getfield 21, 3) := by decide +kernel
theorem dX4_step_123 : decode cX4_step 123 = .ok (.iconst 2, 1) := by decide +kernel
theorem dX4_step_124 : decode cX4_step 124 = .ok (.aload_n 0, 1) := by decide +kernel
theorem dX4_step_125 : decode cX4_step 125 = .ok (.getfield 60, 3) := by decide +kernel
theorem dX4_step_128 : decode cX4_step 128 = .ok (.iastore, 1) := by decide +kernel
theorem dX4_step_129 : decode cX4_step 129 = .ok (.aload_n 0, 1) := by decide +kernel
theorem dX4_step_130 : decode cX4_step 130 = .ok (.getfield 21, 3) := by decide +kernel
theorem dX4_step_133 : decode cX4_step 133 = .ok (.iconst 3, 1) := by decide +kernel
theorem dX4_step_134 : decode cX4_step 134 = .ok (.aload_n 0, 1) := by decide +kernel
theorem dX4_step_135 : decode cX4_step 135 = .ok (.getfield 98, 3) := by decide +kernel
theorem dX4_step_138 : decode cX4_step 138 = .ok (.iastore, 1) := by decide +kernel
theorem dX4_step_139 : decode cX4_step 139 = .ok (.aload_n 0, 1) := by decide +kernel
theorem dX4_step_140 : decode cX4_step 140 = .ok (.getfield 21, 3) := by decide +kernel
theorem dX4_step_143 : decode cX4_step 143 = .ok (.iconst 0, 1) := by decide +kernel
theorem dX4_step_144 : decode cX4_step 144 = .ok (.aload_n 0, 1) := by decide +kernel
theorem dX4_step_145 : decode cX4_step 145 = .ok (.getfield 21, 3) := by decide +kernel
theorem dX4_step_148 : decode cX4_step 148 = .ok (.iconst 0, 1) := by decide +kernel
theorem dX4_step_149 : decode cX4_step 149 = .ok (.iaload, 1) := by decide +kernel
theorem dX4_step_150 : decode cX4_step 150 = .ok (.bipush (-8), 2) := by decide +kernel
theorem dX4_step_152 : decode cX4_step 152 = .ok (.iand, 1) := by decide +kernel
theorem dX4_step_153 : decode cX4_step 153 = .ok (.aload_n 0, 1) := by decide +kernel
theorem dX4_step_154 : decode cX4_step 154 = .ok (.getfield 21, 3) := by decide +kernel
theorem dX4_step_157 : decode cX4_step 157 = .ok (.iconst 0, 1) := by decide +kernel
theorem dX4_step_158 : decode cX4_step 158 = .ok (.iaload, 1) := by decide +kernel
theorem dX4_step_159 : decode cX4_step 159 = .ok (.iconst 1, 1) := by decide +kernel
theorem dX4_step_160 : decode cX4_step 160 = .ok (.iand, 1) := by decide +kernel
theorem dX4_step_161 : decode cX4_step 161 = .ok (.iconst 1, 1) := by decide +kernel
theorem dX4_step_162 : decode cX4_step 162 = .ok (.ishl, 1) := by decide +kernel
theorem dX4_step_163 : decode cX4_step 163 = .ok (.ior, 1) := by decide +kernel
theorem dX4_step_164 : decode cX4_step 164 = .ok (.aload_n 0, 1) := by decide +kernel
theorem dX4_step_165 : decode cX4_step 165 = .ok (.getfield 54, 3) := by decide +kernel
theorem dX4_step_168 : decode cX4_step 168 = .ok (.iconst 2, 1) := by decide +kernel
theorem dX4_step_169 : decode cX4_step 169 = .ok (.ishl, 1) := by decide +kernel
theorem dX4_step_170 : decode cX4_step 170 = .ok (.ior, 1) := by decide +kernel
theorem dX4_step_171 : decode cX4_step 171 = .ok (.iastore, 1) := by decide +kernel
theorem dX4_step_172 : decode cX4_step 172 = .ok (.aload_n 0, 1) := by decide +kernel
theorem dX4_step_173 : decode cX4_step 173 = .ok (.iconst 1, 1) := by decide +kernel
theorem dX4_step_174 : decode cX4_step 174 = .ok (.putfield 54, 3) := by decide +kernel
theorem dX4_step_177 : decode cX4_step 177 = .ok (.aload_n 0, 1) := by decide +kernel
theorem dX4_step_178 : decode cX4_step 178 = .ok (.aload_n 0, 1) := by decide +kernel
theorem dX4_step_179 : decode cX4_step 179 = .ok (.getfield 21, 3) := by decide +kernel
theorem dX4_step_182 : decode cX4_step 182 = .ok (.iconst 4, 1) := by decide +kernel
theorem dX4_step_183 : decode cX4_step 183 = .ok (.iaload, 1) := by decide +kernel
theorem dX4_step_184 : decode cX4_step 184 = .ok (.putfield 60, 3) := by decide +kernel
theorem dX4_step_187 : decode cX4_step 187 = .ok (.aload_n 0, 1) := by decide +kernel
theorem dX4_step_188 : decode cX4_step 188 = .ok (.dup, 1) := by decide +kernel
theorem dX4_step_189 : decode cX4_step 189 = .ok (.getfield 66, 3) := by decide +kernel
theorem dX4_step_192 : decode cX4_step 192 = .ok (.iconst 1, 1) := by decide +kernel
theorem dX4_step_193 : decode cX4_step 193 = .ok (.iadd, 1) := by decide +kernel
theorem dX4_step_194 : decode cX4_step 194 = .ok (.putfield 66, 3) := by decide +kernel
theorem dX4_step_197 : decode cX4_step 197 = .ok (.return_, 1) := by decide +kernel
theorem dX4_fail_0 : decode cX4_fail 0 = .ok (.aload_n 0, 1) := by decide +kernel
theorem dX4_fail_1 : decode cX4_fail 1 = .ok (.iload_n 1, 1) := by decide +kernel
theorem dX4_fail_2 : decode cX4_fail 2 = .ok (.putfield 76, 3) := by decide +kernel
theorem dX4_fail_5 : decode cX4_fail 5 = .ok (.aload_n 0, 1) := by decide +kernel
theorem dX4_fail_6 : decode cX4_fail 6 = .ok (.iload_n 2, 1) := by decide +kernel
theorem dX4_fail_7 : decode cX4_fail 7 = .ok (.putfield 98, 3) := by decide +kernel
theorem dX4_fail_10 : decode cX4_fail 10 = .ok (.return_, 1) := by decide +kernel
theorem dX4_reach_0 : decode cX4_reach 0 = .ok (.aload_n 0, 1) := by decide +kernel
theorem dX4_reach_1 : decode cX4_reach 1 = .ok (.getfield 21, 3) := by decide +kernel
theorem dX4_reach_4 : decode cX4_reach 4 = .ok (.iconst 5, 1) := by decide +kernel
theorem dX4_reach_5 : decode cX4_reach 5 = .ok (.iaload, 1) := by decide +kernel
theorem dX4_reach_6 : decode cX4_reach 6 = .ok (.ifCond .lt 21, 3) := by decide +kernel
theorem dX4_reach_9 : decode cX4_reach 9 = .ok (.aload_n 0, 1) := by decide +kernel
theorem dX4_reach_10 : decode cX4_reach 10 = .ok (.iload_n 1, 1) := by decide +kernel
theorem dX4_reach_11 : decode cX4_reach 11 = .ok (.invokevirtual 101, 3) := by decide +kernel
theorem dX4_reach_14 : decode cX4_reach 14 = .ok (.ifCond .eq 5, 3) := by decide +kernel
theorem dX4_reach_17 : decode cX4_reach 17 = .ok (.iload_n 1, 1) := by decide +kernel
theorem dX4_reach_18 : decode cX4_reach 18 = .ok (.ireturn, 1) := by decide +kernel
theorem dX4_reach_19 : decode cX4_reach 19 = .ok (.aload_n 0, 1) := by decide +kernel
theorem dX4_reach_20 : decode cX4_reach 20 = .ok (.iconst 5, 1) := by decide +kernel
theorem dX4_reach_21 : decode cX4_reach 21 = .ok (.iload_n 1, 1) := by decide +kernel
theorem dX4_reach_22 : decode cX4_reach 22 = .ok (.invokevirtual 87, 3) := by decide +kernel
theorem dX4_reach_25 : decode cX4_reach 25 = .ok (.iconst 0, 1) := by decide +kernel
theorem dX4_reach_26 : decode cX4_reach 26 = .ok (.ireturn, 1) := by decide +kernel
theorem dX4_reach_27 : decode cX4_reach 27 = .ok (.iload_n 1, 1) := by decide +kernel
theorem dX4_reach_28 : decode cX4_reach 28 = .ok (.sipush 16384, 3) := by decide +kernel
theorem dX4_reach_31 : decode cX4_reach 31 = .ok (.invokestatic 72, 3) := by decide +kernel
theorem dX4_reach_34 : decode cX4_reach 34 = .ok (.ifCond .ne 11, 3) := by decide +kernel
theorem dX4_reach_37 : decode cX4_reach 37 = .ok (.aload_n 0, 1) := by decide +kernel
theorem dX4_reach_38 : decode cX4_reach 38 = .ok (.iload_n 2, 1) := by decide +kernel
theorem dX4_reach_39 : decode cX4_reach 39 = .ok (.iload_n 1, 1) := by decide +kernel
theorem dX4_reach_40 : decode cX4_reach 40 = .ok (.invokevirtual 87, 3) := by decide +kernel
theorem dX4_reach_43 : decode cX4_reach 43 = .ok (.iconst 0, 1) := by decide +kernel
theorem dX4_reach_44 : decode cX4_reach 44 = .ok (.ireturn, 1) := by decide +kernel
theorem dX4_reach_45 : decode cX4_reach 45 = .ok (.iload_n 1, 1) := by decide +kernel
theorem dX4_reach_46 : decode cX4_reach 46 = .ok (.bipush 64, 2) := by decide +kernel
theorem dX4_reach_48 : decode cX4_reach 48 = .ok (.idiv, 1) := by decide +kernel
theorem dX4_reach_49 : decode cX4_reach 49 = .ok (.istore_n 3, 1) := by decide +kernel
theorem dX4_reach_50 : decode cX4_reach 50 = .ok (.aload_n 0, 1) := by decide +kernel
theorem dX4_reach_51 : decode cX4_reach 51 = .ok (.getfield 24, 3) := by decide +kernel
theorem dX4_reach_54 : decode cX4_reach 54 = .ok (.iload_n 3, 1) := by decide +kernel
theorem dX4_reach_55 : decode cX4_reach 55 = .ok (.iaload, 1) := by decide +kernel
theorem dX4_reach_56 : decode cX4_reach 56 = .ok (.ifCond .ge 10, 3) := by decide +kernel
theorem dX4_reach_59 : decode cX4_reach 59 = .ok (.aload_n 0, 1) := by decide +kernel
theorem dX4_reach_60 : decode cX4_reach 60 = .ok (.iload_n 3, 1) := by decide +kernel
theorem dX4_reach_61 : decode cX4_reach 61 = .ok (.iload_n 1, 1) := by decide +kernel
theorem dX4_reach_62 : decode cX4_reach 62 = .ok (.iload_n 2, 1) := by decide +kernel
theorem dX4_reach_63 : decode cX4_reach 63 = .ok (.invokevirtual 104, 3) := by decide +kernel
theorem dX4_reach_66 : decode cX4_reach 66 = .ok (.aload_n 0, 1) := by decide +kernel
theorem dX4_reach_67 : decode cX4_reach 67 = .ok (.getfield 76, 3) := by decide +kernel
theorem dX4_reach_70 : decode cX4_reach 70 = .ok (.ifCond .le 5, 3) := by decide +kernel
theorem dX4_reach_73 : decode cX4_reach 73 = .ok (.iconst 0, 1) := by decide +kernel
theorem dX4_reach_74 : decode cX4_reach 74 = .ok (.ireturn, 1) := by decide +kernel
theorem dX4_reach_75 : decode cX4_reach 75 = .ok (.aload_n 0, 1) := by decide +kernel
theorem dX4_reach_76 : decode cX4_reach 76 = .ok (.getfield 54, 3) := by decide +kernel
theorem dX4_reach_79 : decode cX4_reach 79 = .ok (.ifCond .ne 14, 3) := by decide +kernel
theorem dX4_reach_82 : decode cX4_reach 82 = .ok (.aload_n 0, 1) := by decide +kernel
theorem dX4_reach_83 : decode cX4_reach 83 = .ok (.getfield 27, 3) := by decide +kernel
theorem dX4_reach_86 : decode cX4_reach 86 = .ok (.iload_n 3, 1) := by decide +kernel
theorem dX4_reach_87 : decode cX4_reach 87 = .ok (.iaload, 1) := by decide +kernel
theorem dX4_reach_88 : decode cX4_reach 88 = .ok (.iconst 2, 1) := by decide +kernel
theorem dX4_reach_89 : decode cX4_reach 89 = .ok (.iand, 1) := by decide +kernel
theorem dX4_reach_90 : decode cX4_reach 90 = .ok (.ifCond .eq 20, 3) := by decide +kernel
theorem dX4_reach_93 : decode cX4_reach 93 = .ok (.iload_n 2, 1) := by decide +kernel
theorem dX4_reach_94 : decode cX4_reach 94 = .ok (.bipush 13, 2) := by decide +kernel
theorem dX4_reach_96 : decode cX4_reach 96 = .ok (.if_icmp .ne 22, 3) := by decide +kernel
theorem dX4_reach_99 : decode cX4_reach 99 = .ok (.aload_n 0, 1) := by decide +kernel
theorem dX4_reach_100 : decode cX4_reach 100 = .ok (.getfield 27, 3) := by decide +kernel
theorem dX4_reach_103 : decode cX4_reach 103 = .ok (.iload_n 3, 1) := by decide +kernel
theorem dX4_reach_104 : decode cX4_reach 104 = .ok (.iaload, 1) := by decide +kernel
theorem dX4_reach_105 : decode cX4_reach 105 = .ok (.iconst 1, 1) := by decide +kernel
theorem dX4_reach_106 : decode cX4_reach 106 = .ok (.iand, 1) := by decide +kernel
theorem dX4_reach_107 : decode cX4_reach 107 = .ok (.ifCond .ne 11, 3) := by decide +kernel
theorem dX4_reach_110 : decode cX4_reach 110 = .ok (.aload_n 0, 1) := by decide +kernel
theorem dX4_reach_111 : decode cX4_reach 111 = .ok (.iload_n 2, 1) := by decide +kernel
theorem dX4_reach_112 : decode cX4_reach 112 = .ok (.iload_n 1, 1) := by decide +kernel
theorem dX4_reach_113 : decode cX4_reach 113 = .ok (.invokevirtual 87, 3) := by decide +kernel
theorem dX4_reach_116 : decode cX4_reach 116 = .ok (.iconst 0, 1) := by decide +kernel
theorem dX4_reach_117 : decode cX4_reach 117 = .ok (.ireturn, 1) := by decide +kernel
theorem dX4_reach_118 : decode cX4_reach 118 = .ok (.iload_n 2, 1) := by decide +kernel
theorem dX4_reach_119 : decode cX4_reach 119 = .ok (.bipush 13, 2) := by decide +kernel
theorem dX4_reach_121 : decode cX4_reach 121 = .ok (.if_icmp .ne 39, 3) := by decide +kernel
theorem dX4_reach_124 : decode cX4_reach 124 = .ok (.aload_n 0, 1) := by decide +kernel
theorem dX4_reach_125 : decode cX4_reach 125 = .ok (.getfield 27, 3) := by decide +kernel
theorem dX4_reach_128 : decode cX4_reach 128 = .ok (.iload_n 3, 1) := by decide +kernel
theorem dX4_reach_129 : decode cX4_reach 129 = .ok (.iaload, 1) := by decide +kernel
theorem dX4_reach_130 : decode cX4_reach 130 = .ok (.iconst 4, 1) := by decide +kernel
theorem dX4_reach_131 : decode cX4_reach 131 = .ok (.iand, 1) := by decide +kernel
theorem dX4_reach_132 : decode cX4_reach 132 = .ok (.ifCond .ne 28, 3) := by decide +kernel
theorem dX4_reach_135 : decode cX4_reach 135 = .ok (.aload_n 0, 1) := by decide +kernel
theorem dX4_reach_136 : decode cX4_reach 136 = .ok (.getfield 9, 3) := by decide +kernel
theorem dX4_reach_139 : decode cX4_reach 139 = .ok (.aload_n 0, 1) := by decide +kernel
theorem dX4_reach_140 : decode cX4_reach 140 = .ok (.iload_n 3, 1) := by decide +kernel
theorem dX4_reach_141 : decode cX4_reach 141 = .ok (.invokevirtual 108, 3) := by decide +kernel
theorem dX4_reach_144 : decode cX4_reach 144 = .ok (.dup2, 1) := by decide +kernel
theorem dX4_reach_145 : decode cX4_reach 145 = .ok (.iaload, 1) := by decide +kernel
theorem dX4_reach_146 : decode cX4_reach 146 = .ok (.bipush 16, 2) := by decide +kernel
theorem dX4_reach_148 : decode cX4_reach 148 = .ok (.ior, 1) := by decide +kernel
theorem dX4_reach_149 : decode cX4_reach 149 = .ok (.iastore, 1) := by decide +kernel
theorem dX4_reach_150 : decode cX4_reach 150 = .ok (.aload_n 0, 1) := by decide +kernel
theorem dX4_reach_151 : decode cX4_reach 151 = .ok (.getfield 27, 3) := by decide +kernel
theorem dX4_reach_154 : decode cX4_reach 154 = .ok (.iload_n 3, 1) := by decide +kernel
theorem dX4_reach_155 : decode cX4_reach 155 = .ok (.dup2, 1) := by decide +kernel
theorem dX4_reach_156 : decode cX4_reach 156 = .ok (.iaload, 1) := by decide +kernel
theorem dX4_reach_157 : decode cX4_reach 157 = .ok (.iconst 4, 1) := by decide +kernel
theorem dX4_reach_158 : decode cX4_reach 158 = .ok (.ior, 1) := by decide +kernel
theorem dX4_reach_159 : decode cX4_reach 159 = .ok (.iastore, 1) := by decide +kernel
theorem dX4_reach_160 : decode cX4_reach 160 = .ok (.bipush 64, 2) := by decide +kernel
theorem dX4_reach_162 : decode cX4_reach 162 = .ok (.aload_n 0, 1) := by decide +kernel
theorem dX4_reach_163 : decode cX4_reach 163 = .ok (.getfield 24, 3) := by decide +kernel
theorem dX4_reach_166 : decode cX4_reach 166 = .ok (.iload_n 3, 1) := by decide +kernel
theorem dX4_reach_167 : decode cX4_reach 167 = .ok (.iaload, 1) := by decide +kernel
theorem dX4_reach_168 : decode cX4_reach 168 = .ok (.imul, 1) := by decide +kernel
theorem dX4_reach_169 : decode cX4_reach 169 = .ok (.iload_n 1, 1) := by decide +kernel
theorem dX4_reach_170 : decode cX4_reach 170 = .ok (.bipush 63, 2) := by decide +kernel
theorem dX4_reach_172 : decode cX4_reach 172 = .ok (.iand, 1) := by decide +kernel
theorem dX4_reach_173 : decode cX4_reach 173 = .ok (.iadd, 1) := by decide +kernel
theorem dX4_reach_174 : decode cX4_reach 174 = .ok (.ireturn, 1) := by decide +kernel
theorem dX4_tableWord_0 : decode cX4_tableWord 0 = .ok (.bipush 64, 2) := by decide +kernel
theorem dX4_tableWord_2 : decode cX4_tableWord 2 = .ok (.aload_n 0, 1) := by decide +kernel
theorem dX4_tableWord_3 : decode cX4_tableWord 3 = .ok (.getfield 21, 3) := by decide +kernel
theorem dX4_tableWord_6 : decode cX4_tableWord 6 = .ok (.iconst 5, 1) := by decide +kernel
theorem dX4_tableWord_7 : decode cX4_tableWord 7 = .ok (.iaload, 1) := by decide +kernel
theorem dX4_tableWord_8 : decode cX4_tableWord 8 = .ok (.bipush 63, 2) := by decide +kernel
theorem dX4_tableWord_10 : decode cX4_tableWord 10 = .ok (.iand, 1) := by decide +kernel
theorem dX4_tableWord_11 : decode cX4_tableWord 11 = .ok (.imul, 1) := by decide +kernel
theorem dX4_tableWord_12 : decode cX4_tableWord 12 = .ok (.iload_n 1, 1) := by decide +kernel
theorem dX4_tableWord_13 : decode cX4_tableWord 13 = .ok (.iadd, 1) := by decide +kernel
theorem dX4_tableWord_14 : decode cX4_tableWord 14 = .ok (.ireturn, 1) := by decide +kernel
theorem dX4_fill_0 : decode cX4_fill 0 = .ok (.aload_n 0, 1) := by decide +kernel
theorem dX4_fill_1 : decode cX4_fill 1 = .ok (.iload_n 1, 1) := by decide +kernel
theorem dX4_fill_2 : decode cX4_fill 2 = .ok (.invokevirtual 108, 3) := by decide +kernel
theorem dX4_fill_5 : decode cX4_fill 5 = .ok (.istore 4, 2) := by decide +kernel
theorem dX4_fill_7 : decode cX4_fill 7 = .ok (.aload_n 0, 1) := by decide +kernel
theorem dX4_fill_8 : decode cX4_fill 8 = .ok (.iload 4, 2) := by decide +kernel
theorem dX4_fill_10 : decode cX4_fill 10 = .ok (.invokevirtual 101, 3) := by decide +kernel
theorem dX4_fill_13 : decode cX4_fill 13 = .ok (.ifCond .ne 10, 3) := by decide +kernel
theorem dX4_fill_16 : decode cX4_fill 16 = .ok (.aload_n 0, 1) := by decide +kernel
theorem dX4_fill_17 : decode cX4_fill 17 = .ok (.iconst 5, 1) := by decide +kernel
theorem dX4_fill_18 : decode cX4_fill 18 = .ok (.iload_n 2, 1) := by decide +kernel
theorem dX4_fill_19 : decode cX4_fill 19 = .ok (.invokevirtual 87, 3) := by decide +kernel
theorem dX4_fill_22 : decode cX4_fill 22 = .ok (.return_, 1) := by decide +kernel
theorem dX4_fill_23 : decode cX4_fill 23 = .ok (.aload_n 0, 1) := by decide +kernel
theorem dX4_fill_24 : decode cX4_fill 24 = .ok (.getfield 9, 3) := by decide +kernel
theorem dX4_fill_27 : decode cX4_fill 27 = .ok (.iload 4, 2) := by decide +kernel
theorem dX4_fill_29 : decode cX4_fill 29 = .ok (.iaload, 1) := by decide +kernel
theorem dX4_fill_30 : decode cX4_fill 30 = .ok (.istore 5, 2) := by decide +kernel
theorem dX4_fill_32 : decode cX4_fill 32 = .ok (.iload 5, 2) := by decide +kernel
theorem dX4_fill_34 : decode cX4_fill 34 = .ok (.bipush 8, 2) := by decide +kernel
theorem dX4_fill_36 : decode cX4_fill 36 = .ok (.ishr, 1) := by decide +kernel
theorem dX4_fill_37 : decode cX4_fill 37 = .ok (.bipush 63, 2) := by decide +kernel
theorem dX4_fill_39 : decode cX4_fill 39 = .ok (.iand, 1) := by decide +kernel
theorem dX4_fill_40 : decode cX4_fill 40 = .ok (.istore 6, 2) := by decide +kernel
theorem dX4_fill_42 : decode cX4_fill 42 = .ok (.iload 5, 2) := by decide +kernel
theorem dX4_fill_44 : decode cX4_fill 44 = .ok (.iconst 1, 1) := by decide +kernel
theorem dX4_fill_45 : decode cX4_fill 45 = .ok (.iand, 1) := by decide +kernel
theorem dX4_fill_46 : decode cX4_fill 46 = .ok (.ifCond .eq 12, 3) := by decide +kernel
theorem dX4_fill_49 : decode cX4_fill 49 = .ok (.iload 6, 2) := by decide +kernel
theorem dX4_fill_51 : decode cX4_fill 51 = .ok (.aload_n 0, 1) := by decide +kernel
theorem dX4_fill_52 : decode cX4_fill 52 = .ok (.getfield 36, 3) := by decide +kernel
theorem dX4_fill_55 : decode cX4_fill 55 = .ok (.if_icmp .lt 10, 3) := by decide +kernel
theorem dX4_fill_58 : decode cX4_fill 58 = .ok (.aload_n 0, 1) := by decide +kernel
theorem dX4_fill_59 : decode cX4_fill 59 = .ok (.iload_n 3, 1) := by decide +kernel
theorem dX4_fill_60 : decode cX4_fill 60 = .ok (.iload_n 2, 1) := by decide +kernel
theorem dX4_fill_61 : decode cX4_fill 61 = .ok (.invokevirtual 87, 3) := by decide +kernel
theorem dX4_fill_64 : decode cX4_fill 64 = .ok (.return_, 1) := by decide +kernel
theorem dX4_fill_65 : decode cX4_fill 65 = .ok (.aload_n 0, 1) := by decide +kernel
theorem dX4_fill_66 : decode cX4_fill 66 = .ok (.getfield 9, 3) := by decide +kernel
theorem dX4_fill_69 : decode cX4_fill 69 = .ok (.iload 4, 2) := by decide +kernel
theorem dX4_fill_71 : decode cX4_fill 71 = .ok (.iload 5, 2) := by decide +kernel
theorem dX4_fill_73 : decode cX4_fill 73 = .ok (.bipush 8, 2) := by decide +kernel
theorem dX4_fill_75 : decode cX4_fill 75 = .ok (.ior, 1) := by decide +kernel
theorem dX4_fill_76 : decode cX4_fill 76 = .ok (.iastore, 1) := by decide +kernel
theorem dX4_fill_77 : decode cX4_fill 77 = .ok (.aload_n 0, 1) := by decide +kernel
theorem dX4_fill_78 : decode cX4_fill 78 = .ok (.getfield 24, 3) := by decide +kernel
theorem dX4_fill_81 : decode cX4_fill 81 = .ok (.iload_n 1, 1) := by decide +kernel
theorem dX4_fill_82 : decode cX4_fill 82 = .ok (.iload 6, 2) := by decide +kernel
theorem dX4_fill_84 : decode cX4_fill 84 = .ok (.iastore, 1) := by decide +kernel
theorem dX4_fill_85 : decode cX4_fill 85 = .ok (.aload_n 0, 1) := by decide +kernel
theorem dX4_fill_86 : decode cX4_fill 86 = .ok (.getfield 27, 3) := by decide +kernel
theorem dX4_fill_89 : decode cX4_fill 89 = .ok (.iload_n 1, 1) := by decide +kernel
theorem dX4_fill_90 : decode cX4_fill 90 = .ok (.iload 5, 2) := by decide +kernel
theorem dX4_fill_92 : decode cX4_fill 92 = .ok (.iconst 1, 1) := by decide +kernel
theorem dX4_fill_93 : decode cX4_fill 93 = .ok (.ishr, 1) := by decide +kernel
theorem dX4_fill_94 : decode cX4_fill 94 = .ok (.iconst 3, 1) := by decide +kernel
theorem dX4_fill_95 : decode cX4_fill 95 = .ok (.iand, 1) := by decide +kernel
theorem dX4_fill_96 : decode cX4_fill 96 = .ok (.iload 5, 2) := by decide +kernel
theorem dX4_fill_98 : decode cX4_fill 98 = .ok (.iconst 2, 1) := by decide +kernel
theorem dX4_fill_99 : decode cX4_fill 99 = .ok (.ishr, 1) := by decide +kernel
theorem dX4_fill_100 : decode cX4_fill 100 = .ok (.iconst 4, 1) := by decide +kernel
theorem dX4_fill_101 : decode cX4_fill 101 = .ok (.iand, 1) := by decide +kernel
theorem dX4_fill_102 : decode cX4_fill 102 = .ok (.ior, 1) := by decide +kernel
theorem dX4_fill_103 : decode cX4_fill 103 = .ok (.iastore, 1) := by decide +kernel
theorem dX4_fill_104 : decode cX4_fill 104 = .ok (.return_, 1) := by decide +kernel
theorem dX4_work_0 : decode cX4_work 0 = .ok (.iload_n 1, 1) := by decide +kernel
theorem dX4_work_1 : decode cX4_work 1 = .ok (.bipush 26, 2) := by decide +kernel
theorem dX4_work_3 : decode cX4_work 3 = .ok (.iushr, 1) := by decide +kernel
theorem dX4_work_4 : decode cX4_work 4 = .ok (.istore_n 2, 1) := by decide +kernel
theorem dX4_work_5 : decode cX4_work 5 = .ok (.iload_n 1, 1) := by decide +kernel
theorem dX4_work_6 : decode cX4_work 6 = .ok (.bipush 23, 2) := by decide +kernel
theorem dX4_work_8 : decode cX4_work 8 = .ok (.ishr, 1) := by decide +kernel
theorem dX4_work_9 : decode cX4_work 9 = .ok (.bipush 7, 2) := by decide +kernel
theorem dX4_work_11 : decode cX4_work 11 = .ok (.iand, 1) := by decide +kernel
theorem dX4_work_12 : decode cX4_work 12 = .ok (.istore_n 3, 1) := by decide +kernel
theorem dX4_work_13 : decode cX4_work 13 = .ok (.aload_n 0, 1) := by decide +kernel
theorem dX4_work_14 : decode cX4_work 14 = .ok (.getfield 18, 3) := by decide +kernel
theorem dX4_work_17 : decode cX4_work 17 = .ok (.iload_n 1, 1) := by decide +kernel
theorem dX4_work_18 : decode cX4_work 18 = .ok (.bipush 20, 2) := by decide +kernel
theorem dX4_work_20 : decode cX4_work 20 = .ok (.ishr, 1) := by decide +kernel
theorem dX4_work_21 : decode cX4_work 21 = .ok (.bipush 7, 2) := by decide +kernel
theorem dX4_work_23 : decode cX4_work 23 = .ok (.iand, 1) := by decide +kernel
theorem dX4_work_24 : decode cX4_work 24 = .ok (.iaload, 1) := by decide +kernel
theorem dX4_work_25 : decode cX4_work 25 = .ok (.istore 4, 2) := by decide +kernel
theorem dX4_work_27 : decode cX4_work 27 = .ok (.aload_n 0, 1) := by decide +kernel
theorem dX4_work_28 : decode cX4_work 28 = .ok (.getfield 18, 3) := by decide +kernel
theorem dX4_work_31 : decode cX4_work 31 = .ok (.iload_n 1, 1) := by decide +kernel
theorem dX4_work_32 : decode cX4_work 32 = .ok (.bipush 17, 2) := by decide +kernel
theorem dX4_work_34 : decode cX4_work 34 = .ok (.ishr, 1) := by decide +kernel
theorem dX4_work_35 : decode cX4_work 35 = .ok (.bipush 7, 2) := by decide +kernel
theorem dX4_work_37 : decode cX4_work 37 = .ok (.iand, 1) := by decide +kernel
theorem dX4_work_38 : decode cX4_work 38 = .ok (.iaload, 1) := by decide +kernel
theorem dX4_work_39 : decode cX4_work 39 = .ok (.istore 5, 2) := by decide +kernel
theorem dX4_work_41 : decode cX4_work 41 = .ok (.iload_n 1, 1) := by decide +kernel
theorem dX4_work_42 : decode cX4_work 42 = .ok (.bipush 15, 2) := by decide +kernel
theorem dX4_work_44 : decode cX4_work 44 = .ok (.ishl, 1) := by decide +kernel
theorem dX4_work_45 : decode cX4_work 45 = .ok (.bipush 15, 2) := by decide +kernel
theorem dX4_work_47 : decode cX4_work 47 = .ok (.ishr, 1) := by decide +kernel
theorem dX4_work_48 : decode cX4_work 48 = .ok (.istore 6, 2) := by decide +kernel
theorem dX4_work_50 : decode cX4_work 50 = .ok (.aload_n 0, 1) := by decide +kernel
theorem dX4_work_51 : decode cX4_work 51 = .ok (.getfield 60, 3) := by decide +kernel
theorem dX4_work_54 : decode cX4_work 54 = .ok (.iconst 1, 1) := by decide +kernel
theorem dX4_work_55 : decode cX4_work 55 = .ok (.iadd, 1) := by decide +kernel
theorem dX4_work_56 : decode cX4_work 56 = .ok (.istore 7, 2) := by decide +kernel
theorem dX4_work_58 : decode cX4_work 58 = .ok (.aload_n 0, 1) := by decide +kernel
theorem dX4_work_59 : decode cX4_work 59 = .ok (.getfield 54, 3) := by decide +kernel
theorem dX4_work_62 : decode cX4_work 62 = .ok (.ifCond .ne 37, 3) := by decide +kernel
theorem dX4_work_65 : decode cX4_work 65 = .ok (.iload_n 2, 1) := by decide +kernel
theorem dX4_work_66 : decode cX4_work 66 = .ok (.bipush 20, 2) := by decide +kernel
theorem dX4_work_68 : decode cX4_work 68 = .ok (.if_icmp .le 9, 3) := by decide +kernel
theorem dX4_work_71 : decode cX4_work 71 = .ok (.iload_n 2, 1) := by decide +kernel
theorem dX4_work_72 : decode cX4_work 72 = .ok (.bipush 30, 2) := by decide +kernel
theorem dX4_work_74 : decode cX4_work 74 = .ok (.if_icmp .lt 18, 3) := by decide +kernel
theorem dX4_work_77 : decode cX4_work 77 = .ok (.iload_n 2, 1) := by decide +kernel
theorem dX4_work_78 : decode cX4_work 78 = .ok (.bipush 20, 2) := by decide +kernel
theorem dX4_work_80 : decode cX4_work 80 = .ok (.if_icmp .ne 19, 3) := by decide +kernel
theorem dX4_work_83 : decode cX4_work 83 = .ok (.aload_n 0, 1) := by decide +kernel
theorem dX4_work_84 : decode cX4_work 84 = .ok (.bipush 10, 2) := by decide +kernel
theorem dX4_work_86 : decode cX4_work 86 = .ok (.invokevirtual 79, 3) := by decide +kernel
theorem dX4_work_89 : decode cX4_work 89 = .ok (.ifCond .ne 10, 3) := by decide +kernel
theorem dX4_work_92 : decode cX4_work 92 = .ok (.aload_n 0, 1) := by decide +kernel
theorem dX4_work_93 : decode cX4_work 93 = .ok (.iconst 3, 1) := by decide +kernel
theorem dX4_work_94 : decode cX4_work 94 = .ok (.iload_n 1, 1) := by decide +kernel
theorem dX4_work_95 : decode cX4_work 95 = .ok (.invokevirtual 87, 3) := by decide +kernel
theorem dX4_work_98 : decode cX4_work 98 = .ok (.return_, 1) := by decide +kernel
theorem dX4_work_99 : decode cX4_work 99 = .ok (.iload_n 2, 1) := by decide +kernel
theorem dX4_work_100 : decode cX4_work 100 = .ok (.bipush 29, 2) := by decide +kernel
theorem dX4_work_102 : decode cX4_work 102 = .ok (.if_icmp .gt 39, 3) := by decide +kernel
theorem dX4_work_105 : decode cX4_work 105 = .ok (.iload_n 2, 1) := by decide +kernel
theorem dX4_work_106 : decode cX4_work 106 = .ok (.bipush 21, 2) := by decide +kernel
theorem dX4_work_108 : decode cX4_work 108 = .ok (.if_icmp .ne 15, 3) := by decide +kernel
theorem dX4_work_111 : decode cX4_work 111 = .ok (.iload 6, 2) := by decide +kernel
theorem dX4_work_113 : decode cX4_work 113 = .ok (.ifCond .lt 28, 3) := by decide +kernel
theorem dX4_work_116 : decode cX4_work 116 = .ok (.iload 6, 2) := by decide +kernel
theorem dX4_work_118 : decode cX4_work 118 = .ok (.bipush 9, 2) := by decide +kernel
theorem dX4_work_120 : decode cX4_work 120 = .ok (.if_icmp .gt 21, 3) := by decide +kernel
theorem dX4_work_123 : decode cX4_work 123 = .ok (.iload_n 2, 1) := by decide +kernel
theorem dX4_work_124 : decode cX4_work 124 = .ok (.bipush 22, 2) := by decide +kernel
theorem dX4_work_126 : decode cX4_work 126 = .ok (.if_icmp .ne 22, 3) := by decide +kernel
theorem dX4_work_129 : decode cX4_work 129 = .ok (.iload 6, 2) := by decide +kernel
theorem dX4_work_131 : decode cX4_work 131 = .ok (.ifCond .lt 10, 3) := by decide +kernel
theorem dX4_work_134 : decode cX4_work 134 = .ok (.iload 6, 2) := by decide +kernel
theorem dX4_work_136 : decode cX4_work 136 = .ok (.bipush 8, 2) := by decide +kernel
theorem dX4_work_138 : decode cX4_work 138 = .ok (.if_icmp .le 10, 3) := by decide +kernel
theorem dX4_work_141 : decode cX4_work 141 = .ok (.aload_n 0, 1) := by decide +kernel
theorem dX4_work_142 : decode cX4_work 142 = .ok (.iconst 2, 1) := by decide +kernel
theorem dX4_work_143 : decode cX4_work 143 = .ok (.iload_n 1, 1) := by decide +kernel
theorem dX4_work_144 : decode cX4_work 144 = .ok (.invokevirtual 87, 3) := by decide +kernel
theorem dX4_work_147 : decode cX4_work 147 = .ok (.return_, 1) := by decide +kernel
theorem dX4_work_148 : decode cX4_work 148 = .ok (.iload_n 2, 1) := by decide +kernel
theorem dX4_work_149 : decode cX4_work 149 = .ok (.bipush 11, 2) := by decide +kernel
theorem dX4_work_151 : decode cX4_work 151 = .ok (.if_icmp .ge 22, 3) := by decide +kernel
theorem dX4_work_154 : decode cX4_work 154 = .ok (.aload_n 0, 1) := by decide +kernel
theorem dX4_work_155 : decode cX4_work 155 = .ok (.getfield 18, 3) := by decide +kernel
theorem dX4_work_158 : decode cX4_work 158 = .ok (.iload_n 3, 1) := by decide +kernel
theorem dX4_work_159 : decode cX4_work 159 = .ok (.iload_n 2, 1) := by decide +kernel
theorem dX4_work_160 : decode cX4_work 160 = .ok (.iload 4, 2) := by decide +kernel
theorem dX4_work_162 : decode cX4_work 162 = .ok (.iload 5, 2) := by decide +kernel
theorem dX4_work_164 : decode cX4_work 164 = .ok (.iload 6, 2) := by decide +kernel
theorem dX4_work_166 : decode cX4_work 166 = .ok (.invokestatic 112, 3) := by decide +kernel
theorem dX4_work_169 : decode cX4_work 169 = .ok (.iastore, 1) := by decide +kernel
theorem dX4_work_170 : decode cX4_work 170 = .ok (.goto 161, 3) := by decide +kernel
theorem dX4_work_173 : decode cX4_work 173 = .ok (.iload_n 2, 1) := by decide +kernel
theorem dX4_work_174 : decode cX4_work 174 = .ok (.bipush 14, 2) := by decide +kernel
theorem dX4_work_176 : decode cX4_work 176 = .ok (.if_icmp .ge 19, 3) := by decide +kernel
theorem dX4_work_179 : decode cX4_work 179 = .ok (.aload_n 0, 1) := by decide +kernel
theorem dX4_work_180 : decode cX4_work 180 = .ok (.iload_n 2, 1) := by decide +kernel
theorem dX4_work_181 : decode cX4_work 181 = .ok (.iload_n 3, 1) := by decide +kernel
theorem dX4_work_182 : decode cX4_work 182 = .ok (.iload 4, 2) := by decide +kernel
theorem dX4_work_184 : decode cX4_work 184 = .ok (.iload 6, 2) := by decide +kernel
theorem dX4_work_186 : decode cX4_work 186 = .ok (.iadd, 1) := by decide +kernel
theorem dX4_work_187 : decode cX4_work 187 = .ok (.iload 5, 2) := by decide +kernel
theorem dX4_work_189 : decode cX4_work 189 = .ok (.invokevirtual 116, 3) := by decide +kernel
theorem dX4_work_192 : decode cX4_work 192 = .ok (.goto 139, 3) := by decide +kernel
theorem dX4_work_195 : decode cX4_work 195 = .ok (.iload_n 2, 1) := by decide +kernel
theorem dX4_work_196 : decode cX4_work 196 = .ok (.bipush 17, 2) := by decide +kernel
theorem dX4_work_198 : decode cX4_work 198 = .ok (.if_icmp .ge 31, 3) := by decide +kernel
theorem dX4_work_201 : decode cX4_work 201 = .ok (.iload_n 2, 1) := by decide +kernel
theorem dX4_work_202 : decode cX4_work 202 = .ok (.iload 4, 2) := by decide +kernel
theorem dX4_work_204 : decode cX4_work 204 = .ok (.iload 5, 2) := by decide +kernel
theorem dX4_work_206 : decode cX4_work 206 = .ok (.invokestatic 120, 3) := by decide +kernel
theorem dX4_work_209 : decode cX4_work 209 = .ok (.ifCond .eq 13, 3) := by decide +kernel
theorem dX4_work_212 : decode cX4_work 212 = .ok (.aload_n 0, 1) := by decide +kernel
theorem dX4_work_213 : decode cX4_work 213 = .ok (.getfield 60, 3) := by decide +kernel
theorem dX4_work_216 : decode cX4_work 216 = .ok (.iload 6, 2) := by decide +kernel
theorem dX4_work_218 : decode cX4_work 218 = .ok (.iadd, 1) := by decide +kernel
theorem dX4_work_219 : decode cX4_work 219 = .ok (.goto 5, 3) := by decide +kernel
theorem dX4_work_222 : decode cX4_work 222 = .ok (.iload 7, 2) := by decide +kernel
theorem dX4_work_224 : decode cX4_work 224 = .ok (.istore 7, 2) := by decide +kernel
theorem dX4_work_226 : decode cX4_work 226 = .ok (.goto 105, 3) := by decide +kernel
theorem dX4_work_229 : decode cX4_work 229 = .ok (.iload_n 2, 1) := by decide +kernel
theorem dX4_work_230 : decode cX4_work 230 = .ok (.bipush 19, 2) := by decide +kernel
theorem dX4_work_232 : decode cX4_work 232 = .ok (.if_icmp .ge 41, 3) := by decide +kernel
theorem dX4_work_235 : decode cX4_work 235 = .ok (.aload_n 0, 1) := by decide +kernel
theorem dX4_work_236 : decode cX4_work 236 = .ok (.getfield 18, 3) := by decide +kernel
theorem dX4_work_239 : decode cX4_work 239 = .ok (.iload_n 3, 1) := by decide +kernel
theorem dX4_work_240 : decode cX4_work 240 = .ok (.aload_n 0, 1) := by decide +kernel
theorem dX4_work_241 : decode cX4_work 241 = .ok (.getfield 60, 3) := by decide +kernel
theorem dX4_work_244 : decode cX4_work 244 = .ok (.iconst 1, 1) := by decide +kernel
theorem dX4_work_245 : decode cX4_work 245 = .ok (.iadd, 1) := by decide +kernel
theorem dX4_work_246 : decode cX4_work 246 = .ok (.iastore, 1) := by decide +kernel
theorem dX4_work_247 : decode cX4_work 247 = .ok (.iload_n 2, 1) := by decide +kernel
theorem dX4_work_248 : decode cX4_work 248 = .ok (.bipush 17, 2) := by decide +kernel
theorem dX4_work_250 : decode cX4_work 250 = .ok (.if_icmp .ne 13, 3) := by decide +kernel
theorem dX4_work_253 : decode cX4_work 253 = .ok (.aload_n 0, 1) := by decide +kernel
theorem dX4_work_254 : decode cX4_work 254 = .ok (.getfield 60, 3) := by decide +kernel
theorem dX4_work_257 : decode cX4_work 257 = .ok (.iload 6, 2) := by decide +kernel
theorem dX4_work_259 : decode cX4_work 259 = .ok (.iadd, 1) := by decide +kernel
theorem dX4_work_260 : decode cX4_work 260 = .ok (.goto 8, 3) := by decide +kernel
theorem dX4_work_263 : decode cX4_work 263 = .ok (.iload 4, 2) := by decide +kernel
theorem dX4_work_265 : decode cX4_work 265 = .ok (.iload 6, 2) := by decide +kernel
theorem dX4_work_267 : decode cX4_work 267 = .ok (.iadd, 1) := by decide +kernel
theorem dX4_work_268 : decode cX4_work 268 = .ok (.istore 7, 2) := by decide +kernel
theorem dX4_work_270 : decode cX4_work 270 = .ok (.goto 61, 3) := by decide +kernel
theorem dX4_work_273 : decode cX4_work 273 = .ok (.iload_n 2, 1) := by decide +kernel
theorem dX4_work_274 : decode cX4_work 274 = .ok (.bipush 19, 2) := by decide +kernel
theorem dX4_work_276 : decode cX4_work 276 = .ok (.if_icmp .ne 19, 3) := by decide +kernel
theorem dX4_work_279 : decode cX4_work 279 = .ok (.aload_n 0, 1) := by decide +kernel
theorem dX4_work_280 : decode cX4_work 280 = .ok (.bipush 8, 2) := by decide +kernel
theorem dX4_work_282 : decode cX4_work 282 = .ok (.aload_n 0, 1) := by decide +kernel
theorem dX4_work_283 : decode cX4_work 283 = .ok (.getfield 54, 3) := by decide +kernel
theorem dX4_work_286 : decode cX4_work 286 = .ok (.iadd, 1) := by decide +kernel
theorem dX4_work_287 : decode cX4_work 287 = .ok (.iload 6, 2) := by decide +kernel
theorem dX4_work_289 : decode cX4_work 289 = .ok (.invokevirtual 87, 3) := by decide +kernel
theorem dX4_work_292 : decode cX4_work 292 = .ok (.goto 39, 3) := by decide +kernel
theorem dX4_work_295 : decode cX4_work 295 = .ok (.iload_n 2, 1) := by decide +kernel
theorem dX4_work_296 : decode cX4_work 296 = .ok (.bipush 20, 2) := by decide +kernel
theorem dX4_work_298 : decode cX4_work 298 = .ok (.if_icmp .ne 19, 3) := by decide +kernel
theorem dX4_work_301 : decode cX4_work 301 = .ok (.aload_n 0, 1) := by decide +kernel
theorem dX4_work_302 : decode cX4_work 302 = .ok (.getfield 18, 3) := by decide +kernel
theorem dX4_work_305 : decode cX4_work 305 = .ok (.iload_n 3, 1) := by decide +kernel
theorem dX4_work_306 : decode cX4_work 306 = .ok (.aload_n 0, 1) := by decide +kernel
theorem dX4_work_307 : decode cX4_work 307 = .ok (.getfield 21, 3) := by decide +kernel
theorem dX4_work_310 : decode cX4_work 310 = .ok (.bipush 8, 2) := by decide +kernel
theorem dX4_work_312 : decode cX4_work 312 = .ok (.iaload, 1) := by decide +kernel
theorem dX4_work_313 : decode cX4_work 313 = .ok (.iastore, 1) := by decide +kernel
theorem dX4_work_314 : decode cX4_work 314 = .ok (.goto 17, 3) := by decide +kernel
theorem dX4_work_317 : decode cX4_work 317 = .ok (.iload_n 2, 1) := by decide +kernel
theorem dX4_work_318 : decode cX4_work 318 = .ok (.bipush 23, 2) := by decide +kernel
theorem dX4_work_320 : decode cX4_work 320 = .ok (.if_icmp .ne 11, 3) := by decide +kernel
theorem dX4_work_323 : decode cX4_work 323 = .ok (.aload_n 0, 1) := by decide +kernel
theorem dX4_work_324 : decode cX4_work 324 = .ok (.getfield 21, 3) := by decide +kernel
theorem dX4_work_327 : decode cX4_work 327 = .ok (.iconst 2, 1) := by decide +kernel
theorem dX4_work_328 : decode cX4_work 328 = .ok (.iaload, 1) := by decide +kernel
theorem dX4_work_329 : decode cX4_work 329 = .ok (.istore 7, 2) := by decide +kernel
theorem dX4_work_331 : decode cX4_work 331 = .ok (.aload_n 0, 1) := by decide +kernel
theorem dX4_work_332 : decode cX4_work 332 = .ok (.getfield 76, 3) := by decide +kernel
theorem dX4_work_335 : decode cX4_work 335 = .ok (.ifCond .le 4, 3) := by decide +kernel
theorem dX4_work_338 : decode cX4_work 338 = .ok (.return_, 1) := by decide +kernel
theorem dX4_work_339 : decode cX4_work 339 = .ok (.iload_n 2, 1) := by decide +kernel
theorem dX4_work_340 : decode cX4_work 340 = .ok (.bipush 26, 2) := by decide +kernel
theorem dX4_work_342 : decode cX4_work 342 = .ok (.if_icmp .ne 31, 3) := by decide +kernel
theorem dX4_work_345 : decode cX4_work 345 = .ok (.aload_n 0, 1) := by decide +kernel
theorem dX4_work_346 : decode cX4_work 346 = .ok (.invokevirtual 83, 3) := by decide +kernel
theorem dX4_work_349 : decode cX4_work 349 = .ok (.ifCond .ne 24, 3) := by decide +kernel
theorem dX4_work_352 : decode cX4_work 352 = .ok (.aload_n 0, 1) := by decide +kernel
theorem dX4_work_353 : decode cX4_work 353 = .ok (.getfield 44, 3) := by decide +kernel
theorem dX4_work_356 : decode cX4_work 356 = .ok (.ifCond .ne 17, 3) := by decide +kernel
theorem dX4_work_359 : decode cX4_work 359 = .ok (.aload_n 0, 1) := by decide +kernel
theorem dX4_work_360 : decode cX4_work 360 = .ok (.getfield 21, 3) := by decide +kernel
theorem dX4_work_363 : decode cX4_work 363 = .ok (.bipush 6, 2) := by decide +kernel
theorem dX4_work_365 : decode cX4_work 365 = .ok (.iaload, 1) := by decide +kernel
theorem dX4_work_366 : decode cX4_work 366 = .ok (.ifCond .eq 7, 3) := by decide +kernel
theorem dX4_work_369 : decode cX4_work 369 = .ok (.iconst 1, 1) := by decide +kernel
theorem dX4_work_370 : decode cX4_work 370 = .ok (.goto 4, 3) := by decide +kernel
theorem dX4_work_373 : decode cX4_work 373 = .ok (.iconst 0, 1) := by decide +kernel
theorem dX4_work_374 : decode cX4_work 374 = .ok (.istore 8, 2) := by decide +kernel
theorem dX4_work_376 : decode cX4_work 376 = .ok (.iload_n 2, 1) := by decide +kernel
theorem dX4_work_377 : decode cX4_work 377 = .ok (.bipush 20, 2) := by decide +kernel
theorem dX4_work_379 : decode cX4_work 379 = .ok (.if_icmp .le 13, 3) := by decide +kernel
theorem dX4_work_382 : decode cX4_work 382 = .ok (.aload_n 0, 1) := by decide +kernel
theorem dX4_work_383 : decode cX4_work 383 = .ok (.iload_n 2, 1) := by decide +kernel
theorem dX4_work_384 : decode cX4_work 384 = .ok (.iload_n 3, 1) := by decide +kernel
theorem dX4_work_385 : decode cX4_work 385 = .ok (.iload 4, 2) := by decide +kernel
theorem dX4_work_387 : decode cX4_work 387 = .ok (.iload 6, 2) := by decide +kernel
theorem dX4_work_389 : decode cX4_work 389 = .ok (.invokevirtual 124, 3) := by decide +kernel
theorem dX4_work_392 : decode cX4_work 392 = .ok (.aload_n 0, 1) := by decide +kernel
theorem dX4_work_393 : decode cX4_work 393 = .ok (.getfield 21, 3) := by decide +kernel
theorem dX4_work_396 : decode cX4_work 396 = .ok (.bipush 8, 2) := by decide +kernel
theorem dX4_work_398 : decode cX4_work 398 = .ok (.iload 8, 2) := by decide +kernel
theorem dX4_work_400 : decode cX4_work 400 = .ok (.ifCond .eq 13, 3) := by decide +kernel
theorem dX4_work_403 : decode cX4_work 403 = .ok (.aload_n 0, 1) := by decide +kernel
theorem dX4_work_404 : decode cX4_work 404 = .ok (.getfield 21, 3) := by decide +kernel
theorem dX4_work_407 : decode cX4_work 407 = .ok (.bipush 6, 2) := by decide +kernel
theorem dX4_work_409 : decode cX4_work 409 = .ok (.iaload, 1) := by decide +kernel
theorem dX4_work_410 : decode cX4_work 410 = .ok (.goto 12, 3) := by decide +kernel
theorem dX4_work_413 : decode cX4_work 413 = .ok (.aload_n 0, 1) := by decide +kernel
theorem dX4_work_414 : decode cX4_work 414 = .ok (.getfield 21, 3) := by decide +kernel
theorem dX4_work_417 : decode cX4_work 417 = .ok (.bipush 8, 2) := by decide +kernel
theorem dX4_work_419 : decode cX4_work 419 = .ok (.iaload, 1) := by decide +kernel
theorem dX4_work_420 : decode cX4_work 420 = .ok (.iconst 1, 1) := by decide +kernel
theorem dX4_work_421 : decode cX4_work 421 = .ok (.iadd, 1) := by decide +kernel
theorem dX4_work_422 : decode cX4_work 422 = .ok (.iastore, 1) := by decide +kernel
theorem dX4_work_423 : decode cX4_work 423 = .ok (.aload_n 0, 1) := by decide +kernel
theorem dX4_work_424 : decode cX4_work 424 = .ok (.iload 7, 2) := by decide +kernel
theorem dX4_work_426 : decode cX4_work 426 = .ok (.putfield 60, 3) := by decide +kernel
theorem dX4_work_429 : decode cX4_work 429 = .ok (.return_, 1) := by decide +kernel
theorem dX4_made_0 : decode cX4_made 0 = .ok (.iload_n 0, 1) := by decide +kernel
theorem dX4_made_1 : decode cX4_made 1 = .ok (.tableswitch 108 0 9 #[55, 59, 63, 67, 71, 75, 79, 90, 97, 104], 55) := by decide +kernel
theorem dX4_made_56 : decode cX4_made 56 = .ok (.iload_n 1, 1) := by decide +kernel
theorem dX4_made_57 : decode cX4_made 57 = .ok (.iload_n 2, 1) := by decide +kernel
theorem dX4_made_58 : decode cX4_made 58 = .ok (.iadd, 1) := by decide +kernel
theorem dX4_made_59 : decode cX4_made 59 = .ok (.ireturn, 1) := by decide +kernel
theorem dX4_made_60 : decode cX4_made 60 = .ok (.iload_n 1, 1) := by decide +kernel
theorem dX4_made_61 : decode cX4_made 61 = .ok (.iload_n 2, 1) := by decide +kernel
theorem dX4_made_62 : decode cX4_made 62 = .ok (.isub, 1) := by decide +kernel
theorem dX4_made_63 : decode cX4_made 63 = .ok (.ireturn, 1) := by decide +kernel
theorem dX4_made_64 : decode cX4_made 64 = .ok (.iload_n 1, 1) := by decide +kernel
theorem dX4_made_65 : decode cX4_made 65 = .ok (.iload_n 2, 1) := by decide +kernel
theorem dX4_made_66 : decode cX4_made 66 = .ok (.iand, 1) := by decide +kernel
theorem dX4_made_67 : decode cX4_made 67 = .ok (.ireturn, 1) := by decide +kernel
theorem dX4_made_68 : decode cX4_made 68 = .ok (.iload_n 1, 1) := by decide +kernel
theorem dX4_made_69 : decode cX4_made 69 = .ok (.iload_n 2, 1) := by decide +kernel
theorem dX4_made_70 : decode cX4_made 70 = .ok (.ior, 1) := by decide +kernel
theorem dX4_made_71 : decode cX4_made 71 = .ok (.ireturn, 1) := by decide +kernel
theorem dX4_made_72 : decode cX4_made 72 = .ok (.iload_n 1, 1) := by decide +kernel
theorem dX4_made_73 : decode cX4_made 73 = .ok (.iload_n 2, 1) := by decide +kernel
theorem dX4_made_74 : decode cX4_made 74 = .ok (.ixor, 1) := by decide +kernel
theorem dX4_made_75 : decode cX4_made 75 = .ok (.ireturn, 1) := by decide +kernel
theorem dX4_made_76 : decode cX4_made 76 = .ok (.iload_n 1, 1) := by decide +kernel
theorem dX4_made_77 : decode cX4_made 77 = .ok (.iload_n 2, 1) := by decide +kernel
theorem dX4_made_78 : decode cX4_made 78 = .ok (.imul, 1) := by decide +kernel
theorem dX4_made_79 : decode cX4_made 79 = .ok (.ireturn, 1) := by decide +kernel
theorem dX4_made_80 : decode cX4_made 80 = .ok (.iload_n 1, 1) := by decide +kernel
theorem dX4_made_81 : decode cX4_made 81 = .ok (.iload_n 2, 1) := by decide +kernel
theorem dX4_made_82 : decode cX4_made 82 = .ok (.if_icmp .ge 7, 3) := by decide +kernel
theorem dX4_made_85 : decode cX4_made 85 = .ok (.iconst 1, 1) := by decide +kernel
theorem dX4_made_86 : decode cX4_made 86 = .ok (.goto 4, 3) := by decide +kernel
theorem dX4_made_89 : decode cX4_made 89 = .ok (.iconst 0, 1) := by decide +kernel
theorem dX4_made_90 : decode cX4_made 90 = .ok (.ireturn, 1) := by decide +kernel
theorem dX4_made_91 : decode cX4_made 91 = .ok (.iload_n 1, 1) := by decide +kernel
theorem dX4_made_92 : decode cX4_made 92 = .ok (.iload_n 2, 1) := by decide +kernel
theorem dX4_made_93 : decode cX4_made 93 = .ok (.bipush 31, 2) := by decide +kernel
theorem dX4_made_95 : decode cX4_made 95 = .ok (.iand, 1) := by decide +kernel
theorem dX4_made_96 : decode cX4_made 96 = .ok (.ishl, 1) := by decide +kernel
theorem dX4_made_97 : decode cX4_made 97 = .ok (.ireturn, 1) := by decide +kernel
theorem dX4_made_98 : decode cX4_made 98 = .ok (.iload_n 1, 1) := by decide +kernel
theorem dX4_made_99 : decode cX4_made 99 = .ok (.iload_n 2, 1) := by decide +kernel
theorem dX4_made_100 : decode cX4_made 100 = .ok (.bipush 31, 2) := by decide +kernel
theorem dX4_made_102 : decode cX4_made 102 = .ok (.iand, 1) := by decide +kernel
theorem dX4_made_103 : decode cX4_made 103 = .ok (.iushr, 1) := by decide +kernel
theorem dX4_made_104 : decode cX4_made 104 = .ok (.ireturn, 1) := by decide +kernel
theorem dX4_made_105 : decode cX4_made 105 = .ok (.iload_n 1, 1) := by decide +kernel
theorem dX4_made_106 : decode cX4_made 106 = .ok (.iload_n 3, 1) := by decide +kernel
theorem dX4_made_107 : decode cX4_made 107 = .ok (.iadd, 1) := by decide +kernel
theorem dX4_made_108 : decode cX4_made 108 = .ok (.ireturn, 1) := by decide +kernel
theorem dX4_made_109 : decode cX4_made 109 = .ok (.iload_n 3, 1) := by decide +kernel
theorem dX4_made_110 : decode cX4_made 110 = .ok (.bipush 15, 2) := by decide +kernel
theorem dX4_made_112 : decode cX4_made 112 = .ok (.ishl, 1) := by decide +kernel
theorem dX4_made_113 : decode cX4_made 113 = .ok (.ireturn, 1) := by decide +kernel
theorem dX4_goes_0 : decode cX4_goes 0 = .ok (.iload_n 0, 1) := by decide +kernel
theorem dX4_goes_1 : decode cX4_goes 1 = .ok (.bipush 14, 2) := by decide +kernel
theorem dX4_goes_3 : decode cX4_goes 3 = .ok (.if_icmp .ne 16, 3) := by decide +kernel
theorem dX4_goes_6 : decode cX4_goes 6 = .ok (.iload_n 1, 1) := by decide +kernel
theorem dX4_goes_7 : decode cX4_goes 7 = .ok (.iload_n 2, 1) := by decide +kernel
theorem dX4_goes_8 : decode cX4_goes 8 = .ok (.if_icmp .ne 7, 3) := by decide +kernel
theorem dX4_goes_11 : decode cX4_goes 11 = .ok (.iconst 1, 1) := by decide +kernel
theorem dX4_goes_12 : decode cX4_goes 12 = .ok (.goto 36, 3) := by decide +kernel
theorem dX4_goes_15 : decode cX4_goes 15 = .ok (.iconst 0, 1) := by decide +kernel
theorem dX4_goes_16 : decode cX4_goes 16 = .ok (.goto 32, 3) := by decide +kernel
theorem dX4_goes_19 : decode cX4_goes 19 = .ok (.iload_n 0, 1) := by decide +kernel
theorem dX4_goes_20 : decode cX4_goes 20 = .ok (.bipush 15, 2) := by decide +kernel
theorem dX4_goes_22 : decode cX4_goes 22 = .ok (.if_icmp .ne 16, 3) := by decide +kernel
theorem dX4_goes_25 : decode cX4_goes 25 = .ok (.iload_n 1, 1) := by decide +kernel
theorem dX4_goes_26 : decode cX4_goes 26 = .ok (.iload_n 2, 1) := by decide +kernel
theorem dX4_goes_27 : decode cX4_goes 27 = .ok (.if_icmp .eq 7, 3) := by decide +kernel
theorem dX4_goes_30 : decode cX4_goes 30 = .ok (.iconst 1, 1) := by decide +kernel
theorem dX4_goes_31 : decode cX4_goes 31 = .ok (.goto 17, 3) := by decide +kernel
theorem dX4_goes_34 : decode cX4_goes 34 = .ok (.iconst 0, 1) := by decide +kernel
theorem dX4_goes_35 : decode cX4_goes 35 = .ok (.goto 13, 3) := by decide +kernel
theorem dX4_goes_38 : decode cX4_goes 38 = .ok (.iload_n 1, 1) := by decide +kernel
theorem dX4_goes_39 : decode cX4_goes 39 = .ok (.iload_n 2, 1) := by decide +kernel
theorem dX4_goes_40 : decode cX4_goes 40 = .ok (.if_icmp .ge 7, 3) := by decide +kernel
theorem dX4_goes_43 : decode cX4_goes 43 = .ok (.iconst 1, 1) := by decide +kernel
theorem dX4_goes_44 : decode cX4_goes 44 = .ok (.goto 4, 3) := by decide +kernel
theorem dX4_goes_47 : decode cX4_goes 47 = .ok (.iconst 0, 1) := by decide +kernel
theorem dX4_goes_48 : decode cX4_goes 48 = .ok (.ireturn, 1) := by decide +kernel
theorem dX4_moved_0 : decode cX4_moved 0 = .ok (.aload_n 0, 1) := by decide +kernel
theorem dX4_moved_1 : decode cX4_moved 1 = .ok (.iload_n 3, 1) := by decide +kernel
theorem dX4_moved_2 : decode cX4_moved 2 = .ok (.iload_n 1, 1) := by decide +kernel
theorem dX4_moved_3 : decode cX4_moved 3 = .ok (.bipush 11, 2) := by decide +kernel
theorem dX4_moved_5 : decode cX4_moved 5 = .ok (.if_icmp .ne 8, 3) := by decide +kernel
theorem dX4_moved_8 : decode cX4_moved 8 = .ok (.bipush 12, 2) := by decide +kernel
theorem dX4_moved_10 : decode cX4_moved 10 = .ok (.goto 5, 3) := by decide +kernel
theorem dX4_moved_13 : decode cX4_moved 13 = .ok (.bipush 13, 2) := by decide +kernel
theorem dX4_moved_15 : decode cX4_moved 15 = .ok (.invokevirtual 91, 3) := by decide +kernel
theorem dX4_moved_18 : decode cX4_moved 18 = .ok (.istore 5, 2) := by decide +kernel
theorem dX4_moved_20 : decode cX4_moved 20 = .ok (.aload_n 0, 1) := by decide +kernel
theorem dX4_moved_21 : decode cX4_moved 21 = .ok (.getfield 76, 3) := by decide +kernel
theorem dX4_moved_24 : decode cX4_moved 24 = .ok (.ifCond .le 4, 3) := by decide +kernel
theorem dX4_moved_27 : decode cX4_moved 27 = .ok (.return_, 1) := by decide +kernel
theorem dX4_moved_28 : decode cX4_moved 28 = .ok (.aload_n 0, 1) := by decide +kernel
theorem dX4_moved_29 : decode cX4_moved 29 = .ok (.getfield 9, 3) := by decide +kernel
theorem dX4_moved_32 : decode cX4_moved 32 = .ok (.iload 5, 2) := by decide +kernel
theorem dX4_moved_34 : decode cX4_moved 34 = .ok (.iaload, 1) := by decide +kernel
theorem dX4_moved_35 : decode cX4_moved 35 = .ok (.istore 6, 2) := by decide +kernel
theorem dX4_moved_37 : decode cX4_moved 37 = .ok (.iload_n 1, 1) := by decide +kernel
theorem dX4_moved_38 : decode cX4_moved 38 = .ok (.bipush 11, 2) := by decide +kernel
theorem dX4_moved_40 : decode cX4_moved 40 = .ok (.if_icmp .eq 12, 3) := by decide +kernel
theorem dX4_moved_43 : decode cX4_moved 43 = .ok (.aload_n 0, 1) := by decide +kernel
theorem dX4_moved_44 : decode cX4_moved 44 = .ok (.getfield 9, 3) := by decide +kernel
theorem dX4_moved_47 : decode cX4_moved 47 = .ok (.iload 5, 2) := by decide +kernel
theorem dX4_moved_49 : decode cX4_moved 49 = .ok (.iload 4, 2) := by decide +kernel
theorem dX4_moved_51 : decode cX4_moved 51 = .ok (.iastore, 1) := by decide +kernel
theorem dX4_moved_52 : decode cX4_moved 52 = .ok (.iload_n 1, 1) := by decide +kernel
theorem dX4_moved_53 : decode cX4_moved 53 = .ok (.bipush 12, 2) := by decide +kernel
theorem dX4_moved_55 : decode cX4_moved 55 = .ok (.if_icmp .eq 11, 3) := by decide +kernel
theorem dX4_moved_58 : decode cX4_moved 58 = .ok (.aload_n 0, 1) := by decide +kernel
theorem dX4_moved_59 : decode cX4_moved 59 = .ok (.getfield 18, 3) := by decide +kernel
theorem dX4_moved_62 : decode cX4_moved 62 = .ok (.iload_n 2, 1) := by decide +kernel
theorem dX4_moved_63 : decode cX4_moved 63 = .ok (.iload 6, 2) := by decide +kernel
theorem dX4_moved_65 : decode cX4_moved 65 = .ok (.iastore, 1) := by decide +kernel
theorem dX4_moved_66 : decode cX4_moved 66 = .ok (.return_, 1) := by decide +kernel
theorem dX4_own_0 : decode cX4_own 0 = .ok (.iload_n 1, 1) := by decide +kernel
theorem dX4_own_1 : decode cX4_own 1 = .ok (.tableswitch 278 21 28 #[47, 77, 111, 156, 163, 177, 209, 217], 47) := by decide +kernel
theorem dX4_own_48 : decode cX4_own 48 = .ok (.aload_n 0, 1) := by decide +kernel
theorem dX4_own_49 : decode cX4_own 49 = .ok (.getfield 18, 3) := by decide +kernel
theorem dX4_own_52 : decode cX4_own 52 = .ok (.iload_n 2, 1) := by decide +kernel
theorem dX4_own_53 : decode cX4_own 53 = .ok (.iload 4, 2) := by decide +kernel
theorem dX4_own_55 : decode cX4_own 55 = .ok (.bipush 9, 2) := by decide +kernel
theorem dX4_own_57 : decode cX4_own 57 = .ok (.if_icmp .ne 10, 3) := by decide +kernel
theorem dX4_own_60 : decode cX4_own 60 = .ok (.aload_n 0, 1) := by decide +kernel
theorem dX4_own_61 : decode cX4_own 61 = .ok (.getfield 36, 3) := by decide +kernel
theorem dX4_own_64 : decode cX4_own 64 = .ok (.goto 10, 3) := by decide +kernel
theorem dX4_own_67 : decode cX4_own 67 = .ok (.aload_n 0, 1) := by decide +kernel
theorem dX4_own_68 : decode cX4_own 68 = .ok (.getfield 21, 3) := by decide +kernel
theorem dX4_own_71 : decode cX4_own 71 = .ok (.iload 4, 2) := by decide +kernel
theorem dX4_own_73 : decode cX4_own 73 = .ok (.iaload, 1) := by decide +kernel
theorem dX4_own_74 : decode cX4_own 74 = .ok (.iastore, 1) := by decide +kernel
theorem dX4_own_75 : decode cX4_own 75 = .ok (.goto 211, 3) := by decide +kernel
theorem dX4_own_78 : decode cX4_own 78 = .ok (.aload_n 0, 1) := by decide +kernel
theorem dX4_own_79 : decode cX4_own 79 = .ok (.getfield 21, 3) := by decide +kernel
theorem dX4_own_82 : decode cX4_own 82 = .ok (.iload 4, 2) := by decide +kernel
theorem dX4_own_84 : decode cX4_own 84 = .ok (.iload 4, 2) := by decide +kernel
theorem dX4_own_86 : decode cX4_own 86 = .ok (.ifCond .ne 11, 3) := by decide +kernel
theorem dX4_own_89 : decode cX4_own 89 = .ok (.iload_n 3, 1) := by decide +kernel
theorem dX4_own_90 : decode cX4_own 90 = .ok (.sipush 1799, 3) := by decide +kernel
theorem dX4_own_93 : decode cX4_own 93 = .ok (.iand, 1) := by decide +kernel
theorem dX4_own_94 : decode cX4_own 94 = .ok (.goto 4, 3) := by decide +kernel
theorem dX4_own_97 : decode cX4_own 97 = .ok (.iload_n 3, 1) := by decide +kernel
theorem dX4_own_98 : decode cX4_own 98 = .ok (.iastore, 1) := by decide +kernel
theorem dX4_own_99 : decode cX4_own 99 = .ok (.iload 4, 2) := by decide +kernel
theorem dX4_own_101 : decode cX4_own 101 = .ok (.iconst 5, 1) := by decide +kernel
theorem dX4_own_102 : decode cX4_own 102 = .ok (.if_icmp .ne 184, 3) := by decide +kernel
theorem dX4_own_105 : decode cX4_own 105 = .ok (.aload_n 0, 1) := by decide +kernel
theorem dX4_own_106 : decode cX4_own 106 = .ok (.invokevirtual 69, 3) := by decide +kernel
theorem dX4_own_109 : decode cX4_own 109 = .ok (.goto 177, 3) := by decide +kernel
theorem dX4_own_112 : decode cX4_own 112 = .ok (.aload_n 0, 1) := by decide +kernel
theorem dX4_own_113 : decode cX4_own 113 = .ok (.aload_n 0, 1) := by decide +kernel
theorem dX4_own_114 : decode cX4_own 114 = .ok (.getfield 21, 3) := by decide +kernel
theorem dX4_own_117 : decode cX4_own 117 = .ok (.iconst 0, 1) := by decide +kernel
theorem dX4_own_118 : decode cX4_own 118 = .ok (.iaload, 1) := by decide +kernel
theorem dX4_own_119 : decode cX4_own 119 = .ok (.iconst 2, 1) := by decide +kernel
theorem dX4_own_120 : decode cX4_own 120 = .ok (.ishr, 1) := by decide +kernel
theorem dX4_own_121 : decode cX4_own 121 = .ok (.iconst 1, 1) := by decide +kernel
theorem dX4_own_122 : decode cX4_own 122 = .ok (.iand, 1) := by decide +kernel
theorem dX4_own_123 : decode cX4_own 123 = .ok (.putfield 54, 3) := by decide +kernel
theorem dX4_own_126 : decode cX4_own 126 = .ok (.aload_n 0, 1) := by decide +kernel
theorem dX4_own_127 : decode cX4_own 127 = .ok (.getfield 21, 3) := by decide +kernel
theorem dX4_own_130 : decode cX4_own 130 = .ok (.iconst 0, 1) := by decide +kernel
theorem dX4_own_131 : decode cX4_own 131 = .ok (.aload_n 0, 1) := by decide +kernel
theorem dX4_own_132 : decode cX4_own 132 = .ok (.getfield 21, 3) := by decide +kernel
theorem dX4_own_135 : decode cX4_own 135 = .ok (.iconst 0, 1) := by decide +kernel
theorem dX4_own_136 : decode cX4_own 136 = .ok (.iaload, 1) := by decide +kernel
theorem dX4_own_137 : decode cX4_own 137 = .ok (.bipush (-8), 2) := by decide +kernel
theorem dX4_own_139 : decode cX4_own 139 = .ok (.iand, 1) := by decide +kernel
theorem dX4_own_140 : decode cX4_own 140 = .ok (.aload_n 0, 1) := by decide +kernel
theorem dX4_own_141 : decode cX4_own 141 = .ok (.getfield 21, 3) := by decide +kernel
theorem dX4_own_144 : decode cX4_own 144 = .ok (.iconst 0, 1) := by decide +kernel
theorem dX4_own_145 : decode cX4_own 145 = .ok (.iaload, 1) := by decide +kernel
theorem dX4_own_146 : decode cX4_own 146 = .ok (.iconst 1, 1) := by decide +kernel
theorem dX4_own_147 : decode cX4_own 147 = .ok (.ishr, 1) := by decide +kernel
theorem dX4_own_148 : decode cX4_own 148 = .ok (.iconst 1, 1) := by decide +kernel
theorem dX4_own_149 : decode cX4_own 149 = .ok (.iand, 1) := by decide +kernel
theorem dX4_own_150 : decode cX4_own 150 = .ok (.ior, 1) := by decide +kernel
theorem dX4_own_151 : decode cX4_own 151 = .ok (.iconst 2, 1) := by decide +kernel
theorem dX4_own_152 : decode cX4_own 152 = .ok (.ior, 1) := by decide +kernel
theorem dX4_own_153 : decode cX4_own 153 = .ok (.iastore, 1) := by decide +kernel
theorem dX4_own_154 : decode cX4_own 154 = .ok (.goto 132, 3) := by decide +kernel
theorem dX4_own_157 : decode cX4_own 157 = .ok (.aload_n 0, 1) := by decide +kernel
theorem dX4_own_158 : decode cX4_own 158 = .ok (.invokevirtual 69, 3) := by decide +kernel
theorem dX4_own_161 : decode cX4_own 161 = .ok (.goto 125, 3) := by decide +kernel
theorem dX4_own_164 : decode cX4_own 164 = .ok (.aload_n 0, 1) := by decide +kernel
theorem dX4_own_165 : decode cX4_own 165 = .ok (.getfield 24, 3) := by decide +kernel
theorem dX4_own_168 : decode cX4_own 168 = .ok (.iload_n 3, 1) := by decide +kernel
theorem dX4_own_169 : decode cX4_own 169 = .ok (.sipush 255, 3) := by decide +kernel
theorem dX4_own_172 : decode cX4_own 172 = .ok (.iand, 1) := by decide +kernel
theorem dX4_own_173 : decode cX4_own 173 = .ok (.iconst (-1), 1) := by decide +kernel
theorem dX4_own_174 : decode cX4_own 174 = .ok (.iastore, 1) := by decide +kernel
theorem dX4_own_175 : decode cX4_own 175 = .ok (.goto 111, 3) := by decide +kernel
theorem dX4_own_178 : decode cX4_own 178 = .ok (.aload_n 0, 1) := by decide +kernel
theorem dX4_own_179 : decode cX4_own 179 = .ok (.invokevirtual 83, 3) := by decide +kernel
theorem dX4_own_182 : decode cX4_own 182 = .ok (.ifCond .ne 104, 3) := by decide +kernel
theorem dX4_own_185 : decode cX4_own 185 = .ok (.aload_n 0, 1) := by decide +kernel
theorem dX4_own_186 : decode cX4_own 186 = .ok (.getfield 44, 3) := by decide +kernel
theorem dX4_own_189 : decode cX4_own 189 = .ok (.ifCond .ne 97, 3) := by decide +kernel
theorem dX4_own_192 : decode cX4_own 192 = .ok (.aload_n 0, 1) := by decide +kernel
theorem dX4_own_193 : decode cX4_own 193 = .ok (.getfield 21, 3) := by decide +kernel
theorem dX4_own_196 : decode cX4_own 196 = .ok (.bipush 6, 2) := by decide +kernel
theorem dX4_own_198 : decode cX4_own 198 = .ok (.iaload, 1) := by decide +kernel
theorem dX4_own_199 : decode cX4_own 199 = .ok (.ifCond .ne 87, 3) := by decide +kernel
theorem dX4_own_202 : decode cX4_own 202 = .ok (.aload_n 0, 1) := by decide +kernel
theorem dX4_own_203 : decode cX4_own 203 = .ok (.iconst 2, 1) := by decide +kernel
theorem dX4_own_204 : decode cX4_own 204 = .ok (.putfield 57, 3) := by decide +kernel
theorem dX4_own_207 : decode cX4_own 207 = .ok (.goto 79, 3) := by decide +kernel
theorem dX4_own_210 : decode cX4_own 210 = .ok (.aload_n 0, 1) := by decide +kernel
theorem dX4_own_211 : decode cX4_own 211 = .ok (.iconst 3, 1) := by decide +kernel
theorem dX4_own_212 : decode cX4_own 212 = .ok (.putfield 57, 3) := by decide +kernel
theorem dX4_own_215 : decode cX4_own 215 = .ok (.goto 71, 3) := by decide +kernel
theorem dX4_own_218 : decode cX4_own 218 = .ok (.aload_n 0, 1) := by decide +kernel
theorem dX4_own_219 : decode cX4_own 219 = .ok (.getfield 18, 3) := by decide +kernel
theorem dX4_own_222 : decode cX4_own 222 = .ok (.iload_n 2, 1) := by decide +kernel
theorem dX4_own_223 : decode cX4_own 223 = .ok (.iload 4, 2) := by decide +kernel
theorem dX4_own_225 : decode cX4_own 225 = .ok (.ifCond .ne 10, 3) := by decide +kernel
theorem dX4_own_228 : decode cX4_own 228 = .ok (.aload_n 0, 1) := by decide +kernel
theorem dX4_own_229 : decode cX4_own 229 = .ok (.invokevirtual 127, 3) := by decide +kernel
theorem dX4_own_232 : decode cX4_own 232 = .ok (.goto 43, 3) := by decide +kernel
theorem dX4_own_235 : decode cX4_own 235 = .ok (.iload 4, 2) := by decide +kernel
theorem dX4_own_237 : decode cX4_own 237 = .ok (.iconst 1, 1) := by decide +kernel
theorem dX4_own_238 : decode cX4_own 238 = .ok (.if_icmp .ne 10, 3) := by decide +kernel
theorem dX4_own_241 : decode cX4_own 241 = .ok (.aload_n 0, 1) := by decide +kernel
theorem dX4_own_242 : decode cX4_own 242 = .ok (.getfield 44, 3) := by decide +kernel
theorem dX4_own_245 : decode cX4_own 245 = .ok (.goto 30, 3) := by decide +kernel
theorem dX4_own_248 : decode cX4_own 248 = .ok (.iload 4, 2) := by decide +kernel
theorem dX4_own_250 : decode cX4_own 250 = .ok (.iconst 2, 1) := by decide +kernel
theorem dX4_own_251 : decode cX4_own 251 = .ok (.if_icmp .ne 10, 3) := by decide +kernel
theorem dX4_own_254 : decode cX4_own 254 = .ok (.aload_n 0, 1) := by decide +kernel
theorem dX4_own_255 : decode cX4_own 255 = .ok (.getfield 47, 3) := by decide +kernel
theorem dX4_own_258 : decode cX4_own 258 = .ok (.goto 17, 3) := by decide +kernel
theorem dX4_own_261 : decode cX4_own 261 = .ok (.iload 4, 2) := by decide +kernel
theorem dX4_own_263 : decode cX4_own 263 = .ok (.iconst 3, 1) := by decide +kernel
theorem dX4_own_264 : decode cX4_own 264 = .ok (.if_icmp .ne 10, 3) := by decide +kernel
theorem dX4_own_267 : decode cX4_own 267 = .ok (.aload_n 0, 1) := by decide +kernel
theorem dX4_own_268 : decode cX4_own 268 = .ok (.getfield 63, 3) := by decide +kernel
theorem dX4_own_271 : decode cX4_own 271 = .ok (.goto 4, 3) := by decide +kernel
theorem dX4_own_274 : decode cX4_own 274 = .ok (.iconst 0, 1) := by decide +kernel
theorem dX4_own_275 : decode cX4_own 275 = .ok (.iastore, 1) := by decide +kernel
theorem dX4_own_276 : decode cX4_own 276 = .ok (.goto 10, 3) := by decide +kernel
theorem dX4_own_279 : decode cX4_own 279 = .ok (.aload_n 0, 1) := by decide +kernel
theorem dX4_own_280 : decode cX4_own 280 = .ok (.iload_n 3, 1) := by decide +kernel
theorem dX4_own_281 : decode cX4_own 281 = .ok (.iload 4, 2) := by decide +kernel
theorem dX4_own_283 : decode cX4_own 283 = .ok (.invokevirtual 131, 3) := by decide +kernel
theorem dX4_own_286 : decode cX4_own 286 = .ok (.return_, 1) := by decide +kernel
theorem dX4_taken_0 : decode cX4_taken 0 = .ok (.aload_n 0, 1) := by decide +kernel
theorem dX4_taken_1 : decode cX4_taken 1 = .ok (.getfield 44, 3) := by decide +kernel
theorem dX4_taken_4 : decode cX4_taken 4 = .ok (.ifCond .ne 5, 3) := by decide +kernel
theorem dX4_taken_7 : decode cX4_taken 7 = .ok (.iconst 0, 1) := by decide +kernel
theorem dX4_taken_8 : decode cX4_taken 8 = .ok (.ireturn, 1) := by decide +kernel
theorem dX4_taken_9 : decode cX4_taken 9 = .ok (.aload_n 0, 1) := by decide +kernel
theorem dX4_taken_10 : decode cX4_taken 10 = .ok (.getfield 30, 3) := by decide +kernel
theorem dX4_taken_13 : decode cX4_taken 13 = .ok (.iconst 0, 1) := by decide +kernel
theorem dX4_taken_14 : decode cX4_taken 14 = .ok (.iaload, 1) := by decide +kernel
theorem dX4_taken_15 : decode cX4_taken 15 = .ok (.istore_n 1, 1) := by decide +kernel
theorem dX4_taken_16 : decode cX4_taken 16 = .ok (.iconst 1, 1) := by decide +kernel
theorem dX4_taken_17 : decode cX4_taken 17 = .ok (.istore_n 2, 1) := by decide +kernel
theorem dX4_taken_18 : decode cX4_taken 18 = .ok (.iload_n 2, 1) := by decide +kernel
theorem dX4_taken_19 : decode cX4_taken 19 = .ok (.aload_n 0, 1) := by decide +kernel
theorem dX4_taken_20 : decode cX4_taken 20 = .ok (.getfield 44, 3) := by decide +kernel
theorem dX4_taken_23 : decode cX4_taken 23 = .ok (.if_icmp .ge 23, 3) := by decide +kernel
theorem dX4_taken_26 : decode cX4_taken 26 = .ok (.aload_n 0, 1) := by decide +kernel
theorem dX4_taken_27 : decode cX4_taken 27 = .ok (.getfield 30, 3) := by decide +kernel
theorem dX4_taken_30 : decode cX4_taken 30 = .ok (.iload_n 2, 1) := by decide +kernel
theorem dX4_taken_31 : decode cX4_taken 31 = .ok (.iconst 1, 1) := by decide +kernel
theorem dX4_taken_32 : decode cX4_taken 32 = .ok (.isub, 1) := by decide +kernel
theorem dX4_taken_33 : decode cX4_taken 33 = .ok (.aload_n 0, 1) := by decide +kernel
theorem dX4_taken_34 : decode cX4_taken 34 = .ok (.getfield 30, 3) := by decide +kernel
theorem dX4_taken_37 : decode cX4_taken 37 = .ok (.iload_n 2, 1) := by decide +kernel
theorem dX4_taken_38 : decode cX4_taken 38 = .ok (.iaload, 1) := by decide +kernel
theorem dX4_taken_39 : decode cX4_taken 39 = .ok (.iastore, 1) := by decide +kernel
theorem dX4_taken_40 : decode cX4_taken 40 = .ok (.iinc 2 1, 3) := by decide +kernel
theorem dX4_taken_43 : decode cX4_taken 43 = .ok (.goto (-25), 3) := by decide +kernel
theorem dX4_taken_46 : decode cX4_taken 46 = .ok (.aload_n 0, 1) := by decide +kernel
theorem dX4_taken_47 : decode cX4_taken 47 = .ok (.dup, 1) := by decide +kernel
theorem dX4_taken_48 : decode cX4_taken 48 = .ok (.getfield 44, 3) := by decide +kernel
theorem dX4_taken_51 : decode cX4_taken 51 = .ok (.iconst 1, 1) := by decide +kernel
theorem dX4_taken_52 : decode cX4_taken 52 = .ok (.isub, 1) := by decide +kernel
theorem dX4_taken_53 : decode cX4_taken 53 = .ok (.putfield 44, 3) := by decide +kernel
theorem dX4_taken_56 : decode cX4_taken 56 = .ok (.iload_n 1, 1) := by decide +kernel
theorem dX4_taken_57 : decode cX4_taken 57 = .ok (.ireturn, 1) := by decide +kernel
theorem dX4_put_0 : decode cX4_put 0 = .ok (.iload_n 2, 1) := by decide +kernel
theorem dX4_put_1 : decode cX4_put 1 = .ok (.ifCond .ne 43, 3) := by decide +kernel
theorem dX4_put_4 : decode cX4_put 4 = .ok (.aload_n 0, 1) := by decide +kernel
theorem dX4_put_5 : decode cX4_put 5 = .ok (.getfield 47, 3) := by decide +kernel
theorem dX4_put_8 : decode cX4_put 8 = .ok (.ifCond .lt 23, 3) := by decide +kernel
theorem dX4_put_11 : decode cX4_put 11 = .ok (.aload_n 0, 1) := by decide +kernel
theorem dX4_put_12 : decode cX4_put 12 = .ok (.getfield 47, 3) := by decide +kernel
theorem dX4_put_15 : decode cX4_put 15 = .ok (.sipush 1000, 3) := by decide +kernel
theorem dX4_put_18 : decode cX4_put 18 = .ok (.if_icmp .ge 13, 3) := by decide +kernel
theorem dX4_put_21 : decode cX4_put 21 = .ok (.aload_n 0, 1) := by decide +kernel
theorem dX4_put_22 : decode cX4_put 22 = .ok (.getfield 33, 3) := by decide +kernel
theorem dX4_put_25 : decode cX4_put 25 = .ok (.aload_n 0, 1) := by decide +kernel
theorem dX4_put_26 : decode cX4_put 26 = .ok (.getfield 47, 3) := by decide +kernel
theorem dX4_put_29 : decode cX4_put 29 = .ok (.iload_n 1, 1) := by decide +kernel
theorem dX4_put_30 : decode cX4_put 30 = .ok (.iastore, 1) := by decide +kernel
theorem dX4_put_31 : decode cX4_put 31 = .ok (.aload_n 0, 1) := by decide +kernel
theorem dX4_put_32 : decode cX4_put 32 = .ok (.dup, 1) := by decide +kernel
theorem dX4_put_33 : decode cX4_put 33 = .ok (.getfield 47, 3) := by decide +kernel
theorem dX4_put_36 : decode cX4_put 36 = .ok (.iconst 1, 1) := by decide +kernel
theorem dX4_put_37 : decode cX4_put 37 = .ok (.iadd, 1) := by decide +kernel
theorem dX4_put_38 : decode cX4_put 38 = .ok (.putfield 47, 3) := by decide +kernel
theorem dX4_put_41 : decode cX4_put 41 = .ok (.goto 118, 3) := by decide +kernel
theorem dX4_put_44 : decode cX4_put 44 = .ok (.iload_n 2, 1) := by decide +kernel
theorem dX4_put_45 : decode cX4_put 45 = .ok (.iconst 1, 1) := by decide +kernel
theorem dX4_put_46 : decode cX4_put 46 = .ok (.if_icmp .ne 11, 3) := by decide +kernel
theorem dX4_put_49 : decode cX4_put 49 = .ok (.aload_n 0, 1) := by decide +kernel
theorem dX4_put_50 : decode cX4_put 50 = .ok (.iload_n 1, 1) := by decide +kernel
theorem dX4_put_51 : decode cX4_put 51 = .ok (.putfield 63, 3) := by decide +kernel
theorem dX4_put_54 : decode cX4_put 54 = .ok (.goto 105, 3) := by decide +kernel
theorem dX4_put_57 : decode cX4_put 57 = .ok (.iload_n 2, 1) := by decide +kernel
theorem dX4_put_58 : decode cX4_put 58 = .ok (.iconst 2, 1) := by decide +kernel
theorem dX4_put_59 : decode cX4_put 59 = .ok (.if_icmp .ne 100, 3) := by decide +kernel
theorem dX4_put_62 : decode cX4_put 62 = .ok (.aload_n 0, 1) := by decide +kernel
theorem dX4_put_63 : decode cX4_put 63 = .ok (.getfield 63, 3) := by decide +kernel
theorem dX4_put_66 : decode cX4_put 66 = .ok (.aload_n 0, 1) := by decide +kernel
theorem dX4_put_67 : decode cX4_put 67 = .ok (.getfield 36, 3) := by decide +kernel
theorem dX4_put_70 : decode cX4_put 70 = .ok (.invokestatic 72, 3) := by decide +kernel
theorem dX4_put_73 : decode cX4_put 73 = .ok (.ifCond .eq 86, 3) := by decide +kernel
theorem dX4_put_76 : decode cX4_put 76 = .ok (.bipush 64, 2) := by decide +kernel
theorem dX4_put_78 : decode cX4_put 78 = .ok (.iload_n 1, 1) := by decide +kernel
theorem dX4_put_79 : decode cX4_put 79 = .ok (.iconst 1, 1) := by decide +kernel
theorem dX4_put_80 : decode cX4_put 80 = .ok (.ishr, 1) := by decide +kernel
theorem dX4_put_81 : decode cX4_put 81 = .ok (.bipush 15, 2) := by decide +kernel
theorem dX4_put_83 : decode cX4_put 83 = .ok (.iand, 1) := by decide +kernel
theorem dX4_put_84 : decode cX4_put 84 = .ok (.imul, 1) := by decide +kernel
theorem dX4_put_85 : decode cX4_put 85 = .ok (.istore_n 3, 1) := by decide +kernel
theorem dX4_put_86 : decode cX4_put 86 = .ok (.bipush 64, 2) := by decide +kernel
theorem dX4_put_88 : decode cX4_put 88 = .ok (.aload_n 0, 1) := by decide +kernel
theorem dX4_put_89 : decode cX4_put 89 = .ok (.getfield 63, 3) := by decide +kernel
theorem dX4_put_92 : decode cX4_put 92 = .ok (.imul, 1) := by decide +kernel
theorem dX4_put_93 : decode cX4_put 93 = .ok (.istore 4, 2) := by decide +kernel
theorem dX4_put_95 : decode cX4_put 95 = .ok (.iconst 0, 1) := by decide +kernel
theorem dX4_put_96 : decode cX4_put 96 = .ok (.istore 5, 2) := by decide +kernel
theorem dX4_put_98 : decode cX4_put 98 = .ok (.iload 5, 2) := by decide +kernel
theorem dX4_put_100 : decode cX4_put 100 = .ok (.bipush 64, 2) := by decide +kernel
theorem dX4_put_102 : decode cX4_put 102 = .ok (.if_icmp .ge 57, 3) := by decide +kernel
theorem dX4_put_105 : decode cX4_put 105 = .ok (.iload_n 1, 1) := by decide +kernel
theorem dX4_put_106 : decode cX4_put 106 = .ok (.iconst 1, 1) := by decide +kernel
theorem dX4_put_107 : decode cX4_put 107 = .ok (.iand, 1) := by decide +kernel
theorem dX4_put_108 : decode cX4_put 108 = .ok (.iconst 1, 1) := by decide +kernel
theorem dX4_put_109 : decode cX4_put 109 = .ok (.if_icmp .ne 25, 3) := by decide +kernel
theorem dX4_put_112 : decode cX4_put 112 = .ok (.aload_n 0, 1) := by decide +kernel
theorem dX4_put_113 : decode cX4_put 113 = .ok (.getfield 15, 3) := by decide +kernel
theorem dX4_put_116 : decode cX4_put 116 = .ok (.iload_n 3, 1) := by decide +kernel
theorem dX4_put_117 : decode cX4_put 117 = .ok (.iload 5, 2) := by decide +kernel
theorem dX4_put_119 : decode cX4_put 119 = .ok (.iadd, 1) := by decide +kernel
theorem dX4_put_120 : decode cX4_put 120 = .ok (.aload_n 0, 1) := by decide +kernel
theorem dX4_put_121 : decode cX4_put 121 = .ok (.getfield 9, 3) := by decide +kernel
theorem dX4_put_124 : decode cX4_put 124 = .ok (.iload 4, 2) := by decide +kernel
theorem dX4_put_126 : decode cX4_put 126 = .ok (.iload 5, 2) := by decide +kernel
theorem dX4_put_128 : decode cX4_put 128 = .ok (.iadd, 1) := by decide +kernel
theorem dX4_put_129 : decode cX4_put 129 = .ok (.iaload, 1) := by decide +kernel
theorem dX4_put_130 : decode cX4_put 130 = .ok (.iastore, 1) := by decide +kernel
theorem dX4_put_131 : decode cX4_put 131 = .ok (.goto 22, 3) := by decide +kernel
theorem dX4_put_134 : decode cX4_put 134 = .ok (.aload_n 0, 1) := by decide +kernel
theorem dX4_put_135 : decode cX4_put 135 = .ok (.getfield 9, 3) := by decide +kernel
theorem dX4_put_138 : decode cX4_put 138 = .ok (.iload 4, 2) := by decide +kernel
theorem dX4_put_140 : decode cX4_put 140 = .ok (.iload 5, 2) := by decide +kernel
theorem dX4_put_142 : decode cX4_put 142 = .ok (.iadd, 1) := by decide +kernel
theorem dX4_put_143 : decode cX4_put 143 = .ok (.aload_n 0, 1) := by decide +kernel
theorem dX4_put_144 : decode cX4_put 144 = .ok (.getfield 15, 3) := by decide +kernel
theorem dX4_put_147 : decode cX4_put 147 = .ok (.iload_n 3, 1) := by decide +kernel
theorem dX4_put_148 : decode cX4_put 148 = .ok (.iload 5, 2) := by decide +kernel
theorem dX4_put_150 : decode cX4_put 150 = .ok (.iadd, 1) := by decide +kernel
theorem dX4_put_151 : decode cX4_put 151 = .ok (.iaload, 1) := by decide +kernel
theorem dX4_put_152 : decode cX4_put 152 = .ok (.iastore, 1) := by decide +kernel
theorem dX4_put_153 : decode cX4_put 153 = .ok (.iinc 5 1, 3) := by decide +kernel
theorem dX4_put_156 : decode cX4_put 156 = .ok (.goto (-58), 3) := by decide +kernel
theorem dX4_put_159 : decode cX4_put 159 = .ok (.return_, 1) := by decide +kernel
