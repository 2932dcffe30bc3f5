theorem dX0_init_0 : decode cX0_init 0 = .ok (.aload_n 0, 1) := by decide +kernel
theorem dX0_init_1 : decode cX0_init 1 = .ok (.invokespecial 3, 3) := by decide +kernel
theorem dX0_init_4 : decode cX0_init 4 = .ok (.aload_n 0, 1) := by decide +kernel
theorem dX0_init_5 : decode cX0_init 5 = .ok (.bipush 64, 2) := by decide +kernel
theorem dX0_init_7 : decode cX0_init 7 = .ok (.newarray .int, 2) := by decide +kernel
theorem dX0_init_9 : decode cX0_init 9 = .ok (.putfield 9, 3) := by decide +kernel
theorem dX0_init_12 : decode cX0_init 12 = .ok (.aload_n 0, 1) := by decide +kernel
theorem dX0_init_13 : decode cX0_init 13 = .ok (.sipush 1024, 3) := by decide +kernel
theorem dX0_init_16 : decode cX0_init 16 = .ok (.newarray .int, 2) := by decide +kernel
theorem dX0_init_18 : decode cX0_init 18 = .ok (.putfield 15, 3) := by decide +kernel
theorem dX0_init_21 : decode cX0_init 21 = .ok (.aload_n 0, 1) := by decide +kernel
theorem dX0_init_22 : decode cX0_init 22 = .ok (.bipush 8, 2) := by decide +kernel
theorem dX0_init_24 : decode cX0_init 24 = .ok (.newarray .int, 2) := by decide +kernel
theorem dX0_init_26 : decode cX0_init 26 = .ok (.putfield 18, 3) := by decide +kernel
theorem dX0_init_29 : decode cX0_init 29 = .ok (.aload_n 0, 1) := by decide +kernel
theorem dX0_init_30 : decode cX0_init 30 = .ok (.bipush 10, 2) := by decide +kernel
theorem dX0_init_32 : decode cX0_init 32 = .ok (.newarray .int, 2) := by decide +kernel
theorem dX0_init_34 : decode cX0_init 34 = .ok (.putfield 21, 3) := by decide +kernel
theorem dX0_init_37 : decode cX0_init 37 = .ok (.aload_n 0, 1) := by decide +kernel
theorem dX0_init_38 : decode cX0_init 38 = .ok (.sipush 256, 3) := by decide +kernel
theorem dX0_init_41 : decode cX0_init 41 = .ok (.newarray .int, 2) := by decide +kernel
theorem dX0_init_43 : decode cX0_init 43 = .ok (.putfield 24, 3) := by decide +kernel
theorem dX0_init_46 : decode cX0_init 46 = .ok (.aload_n 0, 1) := by decide +kernel
theorem dX0_init_47 : decode cX0_init 47 = .ok (.bipush 64, 2) := by decide +kernel
theorem dX0_init_49 : decode cX0_init 49 = .ok (.newarray .int, 2) := by decide +kernel
theorem dX0_init_51 : decode cX0_init 51 = .ok (.putfield 27, 3) := by decide +kernel
theorem dX0_init_54 : decode cX0_init 54 = .ok (.aload_n 0, 1) := by decide +kernel
theorem dX0_init_55 : decode cX0_init 55 = .ok (.sipush 1000, 3) := by decide +kernel
theorem dX0_init_58 : decode cX0_init 58 = .ok (.newarray .int, 2) := by decide +kernel
theorem dX0_init_60 : decode cX0_init 60 = .ok (.putfield 30, 3) := by decide +kernel
theorem dX0_init_63 : decode cX0_init 63 = .ok (.return_, 1) := by decide +kernel
theorem dX0_renew_0 : decode cX0_renew 0 = .ok (.aload_n 0, 1) := by decide +kernel
theorem dX0_renew_1 : decode cX0_renew 1 = .ok (.iconst 1, 1) := by decide +kernel
theorem dX0_renew_2 : decode cX0_renew 2 = .ok (.putfield 33, 3) := by decide +kernel
theorem dX0_renew_5 : decode cX0_renew 5 = .ok (.aload_n 0, 1) := by decide +kernel
theorem dX0_renew_6 : decode cX0_renew 6 = .ok (.iconst 0, 1) := by decide +kernel
theorem dX0_renew_7 : decode cX0_renew 7 = .ok (.putfield 37, 3) := by decide +kernel
theorem dX0_renew_10 : decode cX0_renew 10 = .ok (.aload_n 0, 1) := by decide +kernel
theorem dX0_renew_11 : decode cX0_renew 11 = .ok (.iload_n 1, 1) := by decide +kernel
theorem dX0_renew_12 : decode cX0_renew 12 = .ok (.putfield 41, 3) := by decide +kernel
theorem dX0_renew_15 : decode cX0_renew 15 = .ok (.aload_n 0, 1) := by decide +kernel
theorem dX0_renew_16 : decode cX0_renew 16 = .ok (.invokevirtual 44, 3) := by decide +kernel
theorem dX0_renew_19 : decode cX0_renew 19 = .ok (.aload_n 0, 1) := by decide +kernel
theorem dX0_renew_20 : decode cX0_renew 20 = .ok (.getfield 15, 3) := by decide +kernel
theorem dX0_renew_23 : decode cX0_renew 23 = .ok (.iconst 0, 1) := by decide +kernel
theorem dX0_renew_24 : decode cX0_renew 24 = .ok (.invokestatic 47, 3) := by decide +kernel
theorem dX0_renew_27 : decode cX0_renew 27 = .ok (.aload_n 0, 1) := by decide +kernel
theorem dX0_renew_28 : decode cX0_renew 28 = .ok (.iconst 0, 1) := by decide +kernel
theorem dX0_renew_29 : decode cX0_renew 29 = .ok (.putfield 53, 3) := by decide +kernel
theorem dX0_renew_32 : decode cX0_renew 32 = .ok (.aload_n 0, 1) := by decide +kernel
theorem dX0_renew_33 : decode cX0_renew 33 = .ok (.iconst 0, 1) := by decide +kernel
theorem dX0_renew_34 : decode cX0_renew 34 = .ok (.putfield 56, 3) := by decide +kernel
theorem dX0_renew_37 : decode cX0_renew 37 = .ok (.aload_n 0, 1) := by decide +kernel
theorem dX0_renew_38 : decode cX0_renew 38 = .ok (.iconst 0, 1) := by decide +kernel
theorem dX0_renew_39 : decode cX0_renew 39 = .ok (.putfield 59, 3) := by decide +kernel
theorem dX0_renew_42 : decode cX0_renew 42 = .ok (.return_, 1) := by decide +kernel
theorem dX0_reset_0 : decode cX0_reset 0 = .ok (.aload_n 0, 1) := by decide +kernel
theorem dX0_reset_1 : decode cX0_reset 1 = .ok (.getfield 18, 3) := by decide +kernel
theorem dX0_reset_4 : decode cX0_reset 4 = .ok (.iconst 0, 1) := by decide +kernel
theorem dX0_reset_5 : decode cX0_reset 5 = .ok (.invokestatic 47, 3) := by decide +kernel
theorem dX0_reset_8 : decode cX0_reset 8 = .ok (.aload_n 0, 1) := by decide +kernel
theorem dX0_reset_9 : decode cX0_reset 9 = .ok (.getfield 21, 3) := by decide +kernel
theorem dX0_reset_12 : decode cX0_reset 12 = .ok (.iconst 0, 1) := by decide +kernel
theorem dX0_reset_13 : decode cX0_reset 13 = .ok (.invokestatic 47, 3) := by decide +kernel
theorem dX0_reset_16 : decode cX0_reset 16 = .ok (.aload_n 0, 1) := by decide +kernel
theorem dX0_reset_17 : decode cX0_reset 17 = .ok (.getfield 21, 3) := by decide +kernel
theorem dX0_reset_20 : decode cX0_reset 20 = .ok (.bipush 9, 2) := by decide +kernel
theorem dX0_reset_22 : decode cX0_reset 22 = .ok (.aload_n 0, 1) := by decide +kernel
theorem dX0_reset_23 : decode cX0_reset 23 = .ok (.getfield 41, 3) := by decide +kernel
theorem dX0_reset_26 : decode cX0_reset 26 = .ok (.iastore, 1) := by decide +kernel
theorem dX0_reset_27 : decode cX0_reset 27 = .ok (.aload_n 0, 1) := by decide +kernel
theorem dX0_reset_28 : decode cX0_reset 28 = .ok (.iconst 0, 1) := by decide +kernel
theorem dX0_reset_29 : decode cX0_reset 29 = .ok (.putfield 62, 3) := by decide +kernel
theorem dX0_reset_32 : decode cX0_reset 32 = .ok (.aload_n 0, 1) := by decide +kernel
theorem dX0_reset_33 : decode cX0_reset 33 = .ok (.iconst 0, 1) := by decide +kernel
theorem dX0_reset_34 : decode cX0_reset 34 = .ok (.putfield 65, 3) := by decide +kernel
theorem dX0_reset_37 : decode cX0_reset 37 = .ok (.aload_n 0, 1) := by decide +kernel
theorem dX0_reset_38 : decode cX0_reset 38 = .ok (.iconst 0, 1) := by decide +kernel
theorem dX0_reset_39 : decode cX0_reset 39 = .ok (.putfield 68, 3) := by decide +kernel
theorem dX0_reset_42 : decode cX0_reset 42 = .ok (.aload_n 0, 1) := by decide +kernel
theorem dX0_reset_43 : decode cX0_reset 43 = .ok (.iconst 0, 1) := by decide +kernel
theorem dX0_reset_44 : decode cX0_reset 44 = .ok (.putfield 71, 3) := by decide +kernel
theorem dX0_reset_47 : decode cX0_reset 47 = .ok (.aload_n 0, 1) := by decide +kernel
theorem dX0_reset_48 : decode cX0_reset 48 = .ok (.invokevirtual 74, 3) := by decide +kernel
theorem dX0_reset_51 : decode cX0_reset 51 = .ok (.return_, 1) := by decide +kernel
theorem dX0_become_0 : decode cX0_become 0 = .ok (.aload_n 0, 1) := by decide +kernel
theorem dX0_become_1 : decode cX0_become 1 = .ok (.iconst 1, 1) := by decide +kernel
theorem dX0_become_2 : decode cX0_become 2 = .ok (.putfield 33, 3) := by decide +kernel
theorem dX0_become_5 : decode cX0_become 5 = .ok (.aload_n 0, 1) := by decide +kernel
theorem dX0_become_6 : decode cX0_become 6 = .ok (.aload_n 1, 1) := by decide +kernel
theorem dX0_become_7 : decode cX0_become 7 = .ok (.getfield 37, 3) := by decide +kernel
theorem dX0_become_10 : decode cX0_become 10 = .ok (.putfield 37, 3) := by decide +kernel
theorem dX0_become_13 : decode cX0_become 13 = .ok (.aload_n 0, 1) := by decide +kernel
theorem dX0_become_14 : decode cX0_become 14 = .ok (.aload_n 1, 1) := by decide +kernel
theorem dX0_become_15 : decode cX0_become 15 = .ok (.getfield 62, 3) := by decide +kernel
theorem dX0_become_18 : decode cX0_become 18 = .ok (.putfield 62, 3) := by decide +kernel
theorem dX0_become_21 : decode cX0_become 21 = .ok (.aload_n 0, 1) := by decide +kernel
theorem dX0_become_22 : decode cX0_become 22 = .ok (.aload_n 1, 1) := by decide +kernel
theorem dX0_become_23 : decode cX0_become 23 = .ok (.getfield 65, 3) := by decide +kernel
theorem dX0_become_26 : decode cX0_become 26 = .ok (.putfield 65, 3) := by decide +kernel
theorem dX0_become_29 : decode cX0_become 29 = .ok (.aload_n 0, 1) := by decide +kernel
theorem dX0_become_30 : decode cX0_become 30 = .ok (.aload_n 1, 1) := by decide +kernel
theorem dX0_become_31 : decode cX0_become 31 = .ok (.getfield 68, 3) := by decide +kernel
theorem dX0_become_34 : decode cX0_become 34 = .ok (.putfield 68, 3) := by decide +kernel
theorem dX0_become_37 : decode cX0_become 37 = .ok (.aload_n 0, 1) := by decide +kernel
theorem dX0_become_38 : decode cX0_become 38 = .ok (.aload_n 1, 1) := by decide +kernel
theorem dX0_become_39 : decode cX0_become 39 = .ok (.getfield 71, 3) := by decide +kernel
theorem dX0_become_42 : decode cX0_become 42 = .ok (.putfield 71, 3) := by decide +kernel
theorem dX0_become_45 : decode cX0_become 45 = .ok (.aload_n 0, 1) := by decide +kernel
theorem dX0_become_46 : decode cX0_become 46 = .ok (.aload_n 1, 1) := by decide +kernel
theorem dX0_become_47 : decode cX0_become 47 = .ok (.getfield 41, 3) := by decide +kernel
theorem dX0_become_50 : decode cX0_become 50 = .ok (.putfield 41, 3) := by decide +kernel
theorem dX0_become_53 : decode cX0_become 53 = .ok (.aload_n 0, 1) := by decide +kernel
theorem dX0_become_54 : decode cX0_become 54 = .ok (.aload_n 1, 1) := by decide +kernel
theorem dX0_become_55 : decode cX0_become 55 = .ok (.getfield 53, 3) := by decide +kernel
theorem dX0_become_58 : decode cX0_become 58 = .ok (.putfield 53, 3) := by decide +kernel
theorem dX0_become_61 : decode cX0_become 61 = .ok (.aload_n 0, 1) := by decide +kernel
theorem dX0_become_62 : decode cX0_become 62 = .ok (.aload_n 1, 1) := by decide +kernel
theorem dX0_become_63 : decode cX0_become 63 = .ok (.getfield 56, 3) := by decide +kernel
theorem dX0_become_66 : decode cX0_become 66 = .ok (.putfield 56, 3) := by decide +kernel
theorem dX0_become_69 : decode cX0_become 69 = .ok (.aload_n 0, 1) := by decide +kernel
theorem dX0_become_70 : decode cX0_become 70 = .ok (.aload_n 1, 1) := by decide +kernel
theorem dX0_become_71 : decode cX0_become 71 = .ok (.getfield 59, 3) := by decide +kernel
theorem dX0_become_74 : decode cX0_become 74 = .ok (.putfield 59, 3) := by decide +kernel
theorem dX0_become_77 : decode cX0_become 77 = .ok (.aload_n 1, 1) := by decide +kernel
theorem dX0_become_78 : decode cX0_become 78 = .ok (.getfield 15, 3) := by decide +kernel
theorem dX0_become_81 : decode cX0_become 81 = .ok (.iconst 0, 1) := by decide +kernel
theorem dX0_become_82 : decode cX0_become 82 = .ok (.aload_n 0, 1) := by decide +kernel
theorem dX0_become_83 : decode cX0_become 83 = .ok (.getfield 15, 3) := by decide +kernel
theorem dX0_become_86 : decode cX0_become 86 = .ok (.iconst 0, 1) := by decide +kernel
theorem dX0_become_87 : decode cX0_become 87 = .ok (.sipush 1024, 3) := by decide +kernel
theorem dX0_become_90 : decode cX0_become 90 = .ok (.invokestatic 77, 3) := by decide +kernel
theorem dX0_become_93 : decode cX0_become 93 = .ok (.aload_n 1, 1) := by decide +kernel
theorem dX0_become_94 : decode cX0_become 94 = .ok (.getfield 18, 3) := by decide +kernel
theorem dX0_become_97 : decode cX0_become 97 = .ok (.iconst 0, 1) := by decide +kernel
theorem dX0_become_98 : decode cX0_become 98 = .ok (.aload_n 0, 1) := by decide +kernel
theorem dX0_become_99 : decode cX0_become 99 = .ok (.getfield 18, 3) := by decide +kernel
theorem dX0_become_102 : decode cX0_become 102 = .ok (.iconst 0, 1) := by decide +kernel
theorem dX0_become_103 : decode cX0_become 103 = .ok (.bipush 8, 2) := by decide +kernel
theorem dX0_become_105 : decode cX0_become 105 = .ok (.invokestatic 77, 3) := by decide +kernel
theorem dX0_become_108 : decode cX0_become 108 = .ok (.aload_n 1, 1) := by decide +kernel
theorem dX0_become_109 : decode cX0_become 109 = .ok (.getfield 21, 3) := by decide +kernel
theorem dX0_become_112 : decode cX0_become 112 = .ok (.iconst 0, 1) := by decide +kernel
theorem dX0_become_113 : decode cX0_become 113 = .ok (.aload_n 0, 1) := by decide +kernel
theorem dX0_become_114 : decode cX0_become 114 = .ok (.getfield 21, 3) := by decide +kernel
theorem dX0_become_117 : decode cX0_become 117 = .ok (.iconst 0, 1) := by decide +kernel
theorem dX0_become_118 : decode cX0_become 118 = .ok (.bipush 10, 2) := by decide +kernel
theorem dX0_become_120 : decode cX0_become 120 = .ok (.invokestatic 77, 3) := by decide +kernel
theorem dX0_become_123 : decode cX0_become 123 = .ok (.aload_n 1, 1) := by decide +kernel
theorem dX0_become_124 : decode cX0_become 124 = .ok (.getfield 24, 3) := by decide +kernel
theorem dX0_become_127 : decode cX0_become 127 = .ok (.iconst 0, 1) := by decide +kernel
theorem dX0_become_128 : decode cX0_become 128 = .ok (.aload_n 0, 1) := by decide +kernel
theorem dX0_become_129 : decode cX0_become 129 = .ok (.getfield 24, 3) := by decide +kernel
theorem dX0_become_132 : decode cX0_become 132 = .ok (.iconst 0, 1) := by decide +kernel
theorem dX0_become_133 : decode cX0_become 133 = .ok (.sipush 256, 3) := by decide +kernel
theorem dX0_become_136 : decode cX0_become 136 = .ok (.invokestatic 77, 3) := by decide +kernel
theorem dX0_become_139 : decode cX0_become 139 = .ok (.aload_n 1, 1) := by decide +kernel
theorem dX0_become_140 : decode cX0_become 140 = .ok (.getfield 27, 3) := by decide +kernel
theorem dX0_become_143 : decode cX0_become 143 = .ok (.iconst 0, 1) := by decide +kernel
theorem dX0_become_144 : decode cX0_become 144 = .ok (.aload_n 0, 1) := by decide +kernel
theorem dX0_become_145 : decode cX0_become 145 = .ok (.getfield 27, 3) := by decide +kernel
theorem dX0_become_148 : decode cX0_become 148 = .ok (.iconst 0, 1) := by decide +kernel
theorem dX0_become_149 : decode cX0_become 149 = .ok (.bipush 64, 2) := by decide +kernel
theorem dX0_become_151 : decode cX0_become 151 = .ok (.invokestatic 77, 3) := by decide +kernel
theorem dX0_become_154 : decode cX0_become 154 = .ok (.aload_n 1, 1) := by decide +kernel
theorem dX0_become_155 : decode cX0_become 155 = .ok (.getfield 30, 3) := by decide +kernel
theorem dX0_become_158 : decode cX0_become 158 = .ok (.iconst 0, 1) := by decide +kernel
theorem dX0_become_159 : decode cX0_become 159 = .ok (.aload_n 0, 1) := by decide +kernel
theorem dX0_become_160 : decode cX0_become 160 = .ok (.getfield 30, 3) := by decide +kernel
theorem dX0_become_163 : decode cX0_become 163 = .ok (.iconst 0, 1) := by decide +kernel
theorem dX0_become_164 : decode cX0_become 164 = .ok (.sipush 1000, 3) := by decide +kernel
theorem dX0_become_167 : decode cX0_become 167 = .ok (.invokestatic 77, 3) := by decide +kernel
theorem dX0_become_170 : decode cX0_become 170 = .ok (.return_, 1) := by decide +kernel
theorem dX0_hasWord_0 : decode cX0_hasWord 0 = .ok (.iload_n 1, 1) := by decide +kernel
theorem dX0_hasWord_1 : decode cX0_hasWord 1 = .ok (.ifCond .lt 18, 3) := by decide +kernel
theorem dX0_hasWord_4 : decode cX0_hasWord 4 = .ok (.iload_n 1, 1) := by decide +kernel
theorem dX0_hasWord_5 : decode cX0_hasWord 5 = .ok (.bipush 64, 2) := by decide +kernel
theorem dX0_hasWord_7 : decode cX0_hasWord 7 = .ok (.aload_n 0, 1) := by decide +kernel
theorem dX0_hasWord_8 : decode cX0_hasWord 8 = .ok (.getfield 41, 3) := by decide +kernel
theorem dX0_hasWord_11 : decode cX0_hasWord 11 = .ok (.imul, 1) := by decide +kernel
theorem dX0_hasWord_12 : decode cX0_hasWord 12 = .ok (.if_icmp .ge 7, 3) := by decide +kernel
theorem dX0_hasWord_15 : decode cX0_hasWord 15 = .ok (.iconst 1, 1) := by decide +kernel
theorem dX0_hasWord_16 : decode cX0_hasWord 16 = .ok (.goto 4, 3) := by decide +kernel
theorem dX0_hasWord_19 : decode cX0_hasWord 19 = .ok (.iconst 0, 1) := by decide +kernel
theorem dX0_hasWord_20 : decode cX0_hasWord 20 = .ok (.ireturn, 1) := by decide +kernel
theorem dX0_emptyCache_0 : decode cX0_emptyCache 0 = .ok (.aload_n 0, 1) := by decide +kernel
theorem dX0_emptyCache_1 : decode cX0_emptyCache 1 = .ok (.getfield 24, 3) := by decide +kernel
theorem dX0_emptyCache_4 : decode cX0_emptyCache 4 = .ok (.iconst (-1), 1) := by decide +kernel
theorem dX0_emptyCache_5 : decode cX0_emptyCache 5 = .ok (.invokestatic 47, 3) := by decide +kernel
theorem dX0_emptyCache_8 : decode cX0_emptyCache 8 = .ok (.return_, 1) := by decide +kernel
theorem dX0_arrive_0 : decode cX0_arrive 0 = .ok (.aload_n 0, 1) := by decide +kernel
theorem dX0_arrive_1 : decode cX0_arrive 1 = .ok (.getfield 56, 3) := by decide +kernel
theorem dX0_arrive_4 : decode cX0_arrive 4 = .ok (.bipush 64, 2) := by decide +kernel
theorem dX0_arrive_6 : decode cX0_arrive 6 = .ok (.if_icmp .lt 5, 3) := by decide +kernel
theorem dX0_arrive_9 : decode cX0_arrive 9 = .ok (.iconst 0, 1) := by decide +kernel
theorem dX0_arrive_10 : decode cX0_arrive 10 = .ok (.ireturn, 1) := by decide +kernel
theorem dX0_arrive_11 : decode cX0_arrive 11 = .ok (.aload_n 0, 1) := by decide +kernel
theorem dX0_arrive_12 : decode cX0_arrive 12 = .ok (.getfield 27, 3) := by decide +kernel
theorem dX0_arrive_15 : decode cX0_arrive 15 = .ok (.aload_n 0, 1) := by decide +kernel
theorem dX0_arrive_16 : decode cX0_arrive 16 = .ok (.getfield 53, 3) := by decide +kernel
theorem dX0_arrive_19 : decode cX0_arrive 19 = .ok (.aload_n 0, 1) := by decide +kernel
theorem dX0_arrive_20 : decode cX0_arrive 20 = .ok (.getfield 56, 3) := by decide +kernel
theorem dX0_arrive_23 : decode cX0_arrive 23 = .ok (.iadd, 1) := by decide +kernel
theorem dX0_arrive_24 : decode cX0_arrive 24 = .ok (.bipush 63, 2) := by decide +kernel
theorem dX0_arrive_26 : decode cX0_arrive 26 = .ok (.iand, 1) := by decide +kernel
theorem dX0_arrive_27 : decode cX0_arrive 27 = .ok (.iload_n 1, 1) := by decide +kernel
theorem dX0_arrive_28 : decode cX0_arrive 28 = .ok (.iastore, 1) := by decide +kernel
theorem dX0_arrive_29 : decode cX0_arrive 29 = .ok (.aload_n 0, 1) := by decide +kernel
theorem dX0_arrive_30 : decode cX0_arrive 30 = .ok (.dup, 1) := by decide +kernel
theorem dX0_arrive_31 : decode cX0_arrive 31 = .ok (.getfield 56, 3) := by decide +kernel
theorem dX0_arrive_34 : decode cX0_arrive 34 = .ok (.iconst 1, 1) := by decide +kernel
theorem dX0_arrive_35 : decode cX0_arrive 35 = .ok (.iadd, 1) := by decide +kernel
theorem dX0_arrive_36 : decode cX0_arrive 36 = .ok (.putfield 56, 3) := by decide +kernel
theorem dX0_arrive_39 : decode cX0_arrive 39 = .ok (.iconst 1, 1) := by decide +kernel
theorem dX0_arrive_40 : decode cX0_arrive 40 = .ok (.ireturn, 1) := by decide +kernel
theorem dX0_takeOldest_0 : decode cX0_takeOldest 0 = .ok (.aload_n 0, 1) := by decide +kernel
theorem dX0_takeOldest_1 : decode cX0_takeOldest 1 = .ok (.getfield 56, 3) := by decide +kernel
theorem dX0_takeOldest_4 : decode cX0_takeOldest 4 = .ok (.ifCond .gt 5, 3) := by decide +kernel
theorem dX0_takeOldest_7 : decode cX0_takeOldest 7 = .ok (.iconst 0, 1) := by decide +kernel
theorem dX0_takeOldest_8 : decode cX0_takeOldest 8 = .ok (.ireturn, 1) := by decide +kernel
theorem dX0_takeOldest_9 : decode cX0_takeOldest 9 = .ok (.aload_n 0, 1) := by decide +kernel
theorem dX0_takeOldest_10 : decode cX0_takeOldest 10 = .ok (.getfield 27, 3) := by decide +kernel
theorem dX0_takeOldest_13 : decode cX0_takeOldest 13 = .ok (.aload_n 0, 1) := by decide +kernel
theorem dX0_takeOldest_14 : decode cX0_takeOldest 14 = .ok (.getfield 53, 3) := by decide +kernel
theorem dX0_takeOldest_17 : decode cX0_takeOldest 17 = .ok (.bipush 63, 2) := by decide +kernel
theorem dX0_takeOldest_19 : decode cX0_takeOldest 19 = .ok (.iand, 1) := by decide +kernel
theorem dX0_takeOldest_20 : decode cX0_takeOldest 20 = .ok (.iaload, 1) := by decide +kernel
theorem dX0_takeOldest_21 : decode cX0_takeOldest 21 = .ok (.istore_n 1, 1) := by decide +kernel
theorem dX0_takeOldest_22 : decode cX0_takeOldest 22 = .ok (.aload_n 0, 1) := by decide +kernel
theorem dX0_takeOldest_23 : decode cX0_takeOldest 23 = .ok (.aload_n 0, 1) := by decide +kernel
theorem dX0_takeOldest_24 : decode cX0_takeOldest 24 = .ok (.getfield 53, 3) := by decide +kernel
theorem dX0_takeOldest_27 : decode cX0_takeOldest 27 = .ok (.iconst 1, 1) := by decide +kernel
theorem dX0_takeOldest_28 : decode cX0_takeOldest 28 = .ok (.iadd, 1) := by decide +kernel
theorem dX0_takeOldest_29 : decode cX0_takeOldest 29 = .ok (.bipush 63, 2) := by decide +kernel
theorem dX0_takeOldest_31 : decode cX0_takeOldest 31 = .ok (.iand, 1) := by decide +kernel
theorem dX0_takeOldest_32 : decode cX0_takeOldest 32 = .ok (.putfield 53, 3) := by decide +kernel
theorem dX0_takeOldest_35 : decode cX0_takeOldest 35 = .ok (.aload_n 0, 1) := by decide +kernel
theorem dX0_takeOldest_36 : decode cX0_takeOldest 36 = .ok (.dup, 1) := by decide +kernel
theorem dX0_takeOldest_37 : decode cX0_takeOldest 37 = .ok (.getfield 56, 3) := by decide +kernel
theorem dX0_takeOldest_40 : decode cX0_takeOldest 40 = .ok (.iconst 1, 1) := by decide +kernel
theorem dX0_takeOldest_41 : decode cX0_takeOldest 41 = .ok (.isub, 1) := by decide +kernel
theorem dX0_takeOldest_42 : decode cX0_takeOldest 42 = .ok (.putfield 56, 3) := by decide +kernel
theorem dX0_takeOldest_45 : decode cX0_takeOldest 45 = .ok (.iload_n 1, 1) := by decide +kernel
theorem dX0_takeOldest_46 : decode cX0_takeOldest 46 = .ok (.ireturn, 1) := by decide +kernel
theorem dX0_putOut_0 : decode cX0_putOut 0 = .ok (.aload_n 0, 1) := by decide +kernel
theorem dX0_putOut_1 : decode cX0_putOut 1 = .ok (.getfield 59, 3) := by decide +kernel
theorem dX0_putOut_4 : decode cX0_putOut 4 = .ok (.ifCond .lt 23, 3) := by decide +kernel
theorem dX0_putOut_7 : decode cX0_putOut 7 = .ok (.aload_n 0, 1) := by decide +kernel
theorem dX0_putOut_8 : decode cX0_putOut 8 = .ok (.getfield 59, 3) := by decide +kernel
theorem dX0_putOut_11 : decode cX0_putOut 11 = .ok (.sipush 1000, 3) := by decide +kernel
theorem dX0_putOut_14 : decode cX0_putOut 14 = .ok (.if_icmp .ge 13, 3) := by decide +kernel
theorem dX0_putOut_17 : decode cX0_putOut 17 = .ok (.aload_n 0, 1) := by decide +kernel
theorem dX0_putOut_18 : decode cX0_putOut 18 = .ok (.getfield 30, 3) := by decide +kernel
theorem dX0_putOut_21 : decode cX0_putOut 21 = .ok (.aload_n 0, 1) := by decide +kernel
theorem dX0_putOut_22 : decode cX0_putOut 22 = .ok (.getfield 59, 3) := by decide +kernel
theorem dX0_putOut_25 : decode cX0_putOut 25 = .ok (.iload_n 1, 1) := by decide +kernel
theorem dX0_putOut_26 : decode cX0_putOut 26 = .ok (.iastore, 1) := by decide +kernel
theorem dX0_putOut_27 : decode cX0_putOut 27 = .ok (.aload_n 0, 1) := by decide +kernel
theorem dX0_putOut_28 : decode cX0_putOut 28 = .ok (.dup, 1) := by decide +kernel
theorem dX0_putOut_29 : decode cX0_putOut 29 = .ok (.getfield 59, 3) := by decide +kernel
theorem dX0_putOut_32 : decode cX0_putOut 32 = .ok (.iconst 1, 1) := by decide +kernel
theorem dX0_putOut_33 : decode cX0_putOut 33 = .ok (.iadd, 1) := by decide +kernel
theorem dX0_putOut_34 : decode cX0_putOut 34 = .ok (.putfield 59, 3) := by decide +kernel
theorem dX0_putOut_37 : decode cX0_putOut 37 = .ok (.return_, 1) := by decide +kernel
theorem dX0_keptCount_0 : decode cX0_keptCount 0 = .ok (.aload_n 0, 1) := by decide +kernel
theorem dX0_keptCount_1 : decode cX0_keptCount 1 = .ok (.getfield 59, 3) := by decide +kernel
theorem dX0_keptCount_4 : decode cX0_keptCount 4 = .ok (.sipush 1000, 3) := by decide +kernel
theorem dX0_keptCount_7 : decode cX0_keptCount 7 = .ok (.invokestatic 83, 3) := by decide +kernel
theorem dX0_keptCount_10 : decode cX0_keptCount 10 = .ok (.ireturn, 1) := by decide +kernel
theorem dX0_timerIsUp_0 : decode cX0_timerIsUp 0 = .ok (.aload_n 0, 1) := by decide +kernel
theorem dX0_timerIsUp_1 : decode cX0_timerIsUp 1 = .ok (.getfield 21, 3) := by decide +kernel
theorem dX0_timerIsUp_4 : decode cX0_timerIsUp 4 = .ok (.bipush 6, 2) := by decide +kernel
theorem dX0_timerIsUp_6 : decode cX0_timerIsUp 6 = .ok (.iaload, 1) := by decide +kernel
theorem dX0_timerIsUp_7 : decode cX0_timerIsUp 7 = .ok (.ifCond .eq 25, 3) := by decide +kernel
theorem dX0_timerIsUp_10 : decode cX0_timerIsUp 10 = .ok (.aload_n 0, 1) := by decide +kernel
theorem dX0_timerIsUp_11 : decode cX0_timerIsUp 11 = .ok (.getfield 21, 3) := by decide +kernel
theorem dX0_timerIsUp_14 : decode cX0_timerIsUp 14 = .ok (.bipush 8, 2) := by decide +kernel
theorem dX0_timerIsUp_16 : decode cX0_timerIsUp 16 = .ok (.iaload, 1) := by decide +kernel
theorem dX0_timerIsUp_17 : decode cX0_timerIsUp 17 = .ok (.aload_n 0, 1) := by decide +kernel
theorem dX0_timerIsUp_18 : decode cX0_timerIsUp 18 = .ok (.getfield 21, 3) := by decide +kernel
theorem dX0_timerIsUp_21 : decode cX0_timerIsUp 21 = .ok (.bipush 6, 2) := by decide +kernel
theorem dX0_timerIsUp_23 : decode cX0_timerIsUp 23 = .ok (.iaload, 1) := by decide +kernel
theorem dX0_timerIsUp_24 : decode cX0_timerIsUp 24 = .ok (.isub, 1) := by decide +kernel
theorem dX0_timerIsUp_25 : decode cX0_timerIsUp 25 = .ok (.ifCond .lt 7, 3) := by decide +kernel
theorem dX0_timerIsUp_28 : decode cX0_timerIsUp 28 = .ok (.iconst 1, 1) := by decide +kernel
theorem dX0_timerIsUp_29 : decode cX0_timerIsUp 29 = .ok (.goto 4, 3) := by decide +kernel
theorem dX0_timerIsUp_32 : decode cX0_timerIsUp 32 = .ok (.iconst 0, 1) := by decide +kernel
theorem dX0_timerIsUp_33 : decode cX0_timerIsUp 33 = .ok (.ireturn, 1) := by decide +kernel
theorem dX0_enterTrap_0 : decode cX0_enterTrap 0 = .ok (.aload_n 0, 1) := by decide +kernel
theorem dX0_enterTrap_1 : decode cX0_enterTrap 1 = .ok (.getfield 21, 3) := by decide +kernel
theorem dX0_enterTrap_4 : decode cX0_enterTrap 4 = .ok (.iconst 0, 1) := by decide +kernel
theorem dX0_enterTrap_5 : decode cX0_enterTrap 5 = .ok (.iaload, 1) := by decide +kernel
theorem dX0_enterTrap_6 : decode cX0_enterTrap 6 = .ok (.istore_n 3, 1) := by decide +kernel
theorem dX0_enterTrap_7 : decode cX0_enterTrap 7 = .ok (.iload_n 3, 1) := by decide +kernel
theorem dX0_enterTrap_8 : decode cX0_enterTrap 8 = .ok (.iconst 1, 1) := by decide +kernel
theorem dX0_enterTrap_9 : decode cX0_enterTrap 9 = .ok (.iand, 1) := by decide +kernel
theorem dX0_enterTrap_10 : decode cX0_enterTrap 10 = .ok (.ifCond .eq 7, 3) := by decide +kernel
theorem dX0_enterTrap_13 : decode cX0_enterTrap 13 = .ok (.iconst 2, 1) := by decide +kernel
theorem dX0_enterTrap_14 : decode cX0_enterTrap 14 = .ok (.goto 4, 3) := by decide +kernel
theorem dX0_enterTrap_17 : decode cX0_enterTrap 17 = .ok (.iconst 0, 1) := by decide +kernel
theorem dX0_enterTrap_18 : decode cX0_enterTrap 18 = .ok (.aload_n 0, 1) := by decide +kernel
theorem dX0_enterTrap_19 : decode cX0_enterTrap 19 = .ok (.getfield 65, 3) := by decide +kernel
theorem dX0_enterTrap_22 : decode cX0_enterTrap 22 = .ok (.ifCond .eq 7, 3) := by decide +kernel
theorem dX0_enterTrap_25 : decode cX0_enterTrap 25 = .ok (.iconst 4, 1) := by decide +kernel
theorem dX0_enterTrap_26 : decode cX0_enterTrap 26 = .ok (.goto 4, 3) := by decide +kernel
theorem dX0_enterTrap_29 : decode cX0_enterTrap 29 = .ok (.iconst 0, 1) := by decide +kernel
theorem dX0_enterTrap_30 : decode cX0_enterTrap 30 = .ok (.ior, 1) := by decide +kernel
theorem dX0_enterTrap_31 : decode cX0_enterTrap 31 = .ok (.istore 4, 2) := by decide +kernel
theorem dX0_enterTrap_33 : decode cX0_enterTrap 33 = .ok (.aload_n 0, 1) := by decide +kernel
theorem dX0_enterTrap_34 : decode cX0_enterTrap 34 = .ok (.getfield 21, 3) := by decide +kernel
theorem dX0_enterTrap_37 : decode cX0_enterTrap 37 = .ok (.iconst 0, 1) := by decide +kernel
theorem dX0_enterTrap_38 : decode cX0_enterTrap 38 = .ok (.iload_n 3, 1) := by decide +kernel
theorem dX0_enterTrap_39 : decode cX0_enterTrap 39 = .ok (.sipush 1792, 3) := by decide +kernel
theorem dX0_enterTrap_42 : decode cX0_enterTrap 42 = .ok (.iand, 1) := by decide +kernel
theorem dX0_enterTrap_43 : decode cX0_enterTrap 43 = .ok (.iload 4, 2) := by decide +kernel
theorem dX0_enterTrap_45 : decode cX0_enterTrap 45 = .ok (.ior, 1) := by decide +kernel
theorem dX0_enterTrap_46 : decode cX0_enterTrap 46 = .ok (.iastore, 1) := by decide +kernel
theorem dX0_enterTrap_47 : decode cX0_enterTrap 47 = .ok (.aload_n 0, 1) := by decide +kernel
theorem dX0_enterTrap_48 : decode cX0_enterTrap 48 = .ok (.getfield 21, 3) := by decide +kernel
theorem dX0_enterTrap_51 : decode cX0_enterTrap 51 = .ok (.iconst 1, 1) := by decide +kernel
theorem dX0_enterTrap_52 : decode cX0_enterTrap 52 = .ok (.iload_n 1, 1) := by decide +kernel
theorem dX0_enterTrap_53 : decode cX0_enterTrap 53 = .ok (.iastore, 1) := by decide +kernel
theorem dX0_enterTrap_54 : decode cX0_enterTrap 54 = .ok (.aload_n 0, 1) := by decide +kernel
theorem dX0_enterTrap_55 : decode cX0_enterTrap 55 = .ok (.getfield 21, 3) := by decide +kernel
theorem dX0_enterTrap_58 : decode cX0_enterTrap 58 = .ok (.iconst 2, 1) := by decide +kernel
theorem dX0_enterTrap_59 : decode cX0_enterTrap 59 = .ok (.aload_n 0, 1) := by decide +kernel
theorem dX0_enterTrap_60 : decode cX0_enterTrap 60 = .ok (.getfield 62, 3) := by decide +kernel
theorem dX0_enterTrap_63 : decode cX0_enterTrap 63 = .ok (.iastore, 1) := by decide +kernel
theorem dX0_enterTrap_64 : decode cX0_enterTrap 64 = .ok (.aload_n 0, 1) := by decide +kernel
theorem dX0_enterTrap_65 : decode cX0_enterTrap 65 = .ok (.getfield 21, 3) := by decide +kernel
theorem dX0_enterTrap_68 : decode cX0_enterTrap 68 = .ok (.iconst 3, 1) := by decide +kernel
theorem dX0_enterTrap_69 : decode cX0_enterTrap 69 = .ok (.iload_n 2, 1) := by decide +kernel
theorem dX0_enterTrap_70 : decode cX0_enterTrap 70 = .ok (.iastore, 1) := by decide +kernel
theorem dX0_enterTrap_71 : decode cX0_enterTrap 71 = .ok (.aload_n 0, 1) := by decide +kernel
theorem dX0_enterTrap_72 : decode cX0_enterTrap 72 = .ok (.iconst 1, 1) := by decide +kernel
theorem dX0_enterTrap_73 : decode cX0_enterTrap 73 = .ok (.putfield 65, 3) := by decide +kernel
theorem dX0_enterTrap_76 : decode cX0_enterTrap 76 = .ok (.aload_n 0, 1) := by decide +kernel
theorem dX0_enterTrap_77 : decode cX0_enterTrap 77 = .ok (.aload_n 0, 1) := by decide +kernel
theorem dX0_enterTrap_78 : decode cX0_enterTrap 78 = .ok (.getfield 21, 3) := by decide +kernel
theorem dX0_enterTrap_81 : decode cX0_enterTrap 81 = .ok (.iconst 4, 1) := by decide +kernel
theorem dX0_enterTrap_82 : decode cX0_enterTrap 82 = .ok (.iaload, 1) := by decide +kernel
theorem dX0_enterTrap_83 : decode cX0_enterTrap 83 = .ok (.putfield 62, 3) := by decide +kernel
theorem dX0_enterTrap_86 : decode cX0_enterTrap 86 = .ok (.aload_n 0, 1) := by decide +kernel
theorem dX0_enterTrap_87 : decode cX0_enterTrap 87 = .ok (.dup, 1) := by decide +kernel
theorem dX0_enterTrap_88 : decode cX0_enterTrap 88 = .ok (.getfield 71, 3) := by decide +kernel
theorem dX0_enterTrap_91 : decode cX0_enterTrap 91 = .ok (.iconst 1, 1) := by decide +kernel
theorem dX0_enterTrap_92 : decode cX0_enterTrap 92 = .ok (.iadd, 1) := by decide +kernel
theorem dX0_enterTrap_93 : decode cX0_enterTrap 93 = .ok (.putfield 71, 3) := by decide +kernel
theorem dX0_enterTrap_96 : decode cX0_enterTrap 96 = .ok (.return_, 1) := by decide +kernel
theorem dX0_leaveTrap_0 : decode cX0_leaveTrap 0 = .ok (.aload_n 0, 1) := by decide +kernel
theorem dX0_leaveTrap_1 : decode cX0_leaveTrap 1 = .ok (.getfield 21, 3) := by decide +kernel
theorem dX0_leaveTrap_4 : decode cX0_leaveTrap 4 = .ok (.iconst 0, 1) := by decide +kernel
theorem dX0_leaveTrap_5 : decode cX0_leaveTrap 5 = .ok (.iaload, 1) := by decide +kernel
theorem dX0_leaveTrap_6 : decode cX0_leaveTrap 6 = .ok (.istore_n 1, 1) := by decide +kernel
theorem dX0_leaveTrap_7 : decode cX0_leaveTrap 7 = .ok (.iload_n 1, 1) := by decide +kernel
theorem dX0_leaveTrap_8 : decode cX0_leaveTrap 8 = .ok (.iconst 2, 1) := by decide +kernel
theorem dX0_leaveTrap_9 : decode cX0_leaveTrap 9 = .ok (.iand, 1) := by decide +kernel
theorem dX0_leaveTrap_10 : decode cX0_leaveTrap 10 = .ok (.ifCond .eq 7, 3) := by decide +kernel
theorem dX0_leaveTrap_13 : decode cX0_leaveTrap 13 = .ok (.iconst 1, 1) := by decide +kernel
theorem dX0_leaveTrap_14 : decode cX0_leaveTrap 14 = .ok (.goto 4, 3) := by decide +kernel
theorem dX0_leaveTrap_17 : decode cX0_leaveTrap 17 = .ok (.iconst 0, 1) := by decide +kernel
theorem dX0_leaveTrap_18 : decode cX0_leaveTrap 18 = .ok (.istore_n 2, 1) := by decide +kernel
theorem dX0_leaveTrap_19 : decode cX0_leaveTrap 19 = .ok (.aload_n 0, 1) := by decide +kernel
theorem dX0_leaveTrap_20 : decode cX0_leaveTrap 20 = .ok (.getfield 21, 3) := by decide +kernel
theorem dX0_leaveTrap_23 : decode cX0_leaveTrap 23 = .ok (.iconst 0, 1) := by decide +kernel
theorem dX0_leaveTrap_24 : decode cX0_leaveTrap 24 = .ok (.iload_n 1, 1) := by decide +kernel
theorem dX0_leaveTrap_25 : decode cX0_leaveTrap 25 = .ok (.sipush 1792, 3) := by decide +kernel
theorem dX0_leaveTrap_28 : decode cX0_leaveTrap 28 = .ok (.iand, 1) := by decide +kernel
theorem dX0_leaveTrap_29 : decode cX0_leaveTrap 29 = .ok (.iconst 2, 1) := by decide +kernel
theorem dX0_leaveTrap_30 : decode cX0_leaveTrap 30 = .ok (.ior, 1) := by decide +kernel
theorem dX0_leaveTrap_31 : decode cX0_leaveTrap 31 = .ok (.iload_n 2, 1) := by decide +kernel
theorem dX0_leaveTrap_32 : decode cX0_leaveTrap 32 = .ok (.ior, 1) := by decide +kernel
theorem dX0_leaveTrap_33 : decode cX0_leaveTrap 33 = .ok (.iastore, 1) := by decide +kernel
theorem dX0_leaveTrap_34 : decode cX0_leaveTrap 34 = .ok (.aload_n 0, 1) := by decide +kernel
theorem dX0_leaveTrap_35 : decode cX0_leaveTrap 35 = .ok (.iload_n 1, 1) := by decide +kernel
theorem dX0_leaveTrap_36 : decode cX0_leaveTrap 36 = .ok (.iconst 4, 1) := by decide +kernel
theorem dX0_leaveTrap_37 : decode cX0_leaveTrap 37 = .ok (.iand, 1) := by decide +kernel
theorem dX0_leaveTrap_38 : decode cX0_leaveTrap 38 = .ok (.ifCond .eq 7, 3) := by decide +kernel
theorem dX0_leaveTrap_41 : decode cX0_leaveTrap 41 = .ok (.iconst 1, 1) := by decide +kernel
theorem dX0_leaveTrap_42 : decode cX0_leaveTrap 42 = .ok (.goto 4, 3) := by decide +kernel
theorem dX0_leaveTrap_45 : decode cX0_leaveTrap 45 = .ok (.iconst 0, 1) := by decide +kernel
theorem dX0_leaveTrap_46 : decode cX0_leaveTrap 46 = .ok (.putfield 65, 3) := by decide +kernel
theorem dX0_leaveTrap_49 : decode cX0_leaveTrap 49 = .ok (.return_, 1) := by decide +kernel
theorem dX0_tell_0 : decode cX0_tell 0 = .ok (.iload_n 1, 1) := by decide +kernel
theorem dX0_tell_1 : decode cX0_tell 1 = .ok (.ifCond .lt 16, 3) := by decide +kernel
theorem dX0_tell_4 : decode cX0_tell 4 = .ok (.iload_n 1, 1) := by decide +kernel
theorem dX0_tell_5 : decode cX0_tell 5 = .ok (.bipush 8, 2) := by decide +kernel
theorem dX0_tell_7 : decode cX0_tell 7 = .ok (.if_icmp .ge 10, 3) := by decide +kernel
theorem dX0_tell_10 : decode cX0_tell 10 = .ok (.aload_n 0, 1) := by decide +kernel
theorem dX0_tell_11 : decode cX0_tell 11 = .ok (.getfield 18, 3) := by decide +kernel
theorem dX0_tell_14 : decode cX0_tell 14 = .ok (.iload_n 1, 1) := by decide +kernel
theorem dX0_tell_15 : decode cX0_tell 15 = .ok (.iaload, 1) := by decide +kernel
theorem dX0_tell_16 : decode cX0_tell 16 = .ok (.ireturn, 1) := by decide +kernel
theorem dX0_tell_17 : decode cX0_tell 17 = .ok (.iload_n 1, 1) := by decide +kernel
theorem dX0_tell_18 : decode cX0_tell 18 = .ok (.bipush 10, 2) := by decide +kernel
theorem dX0_tell_20 : decode cX0_tell 20 = .ok (.if_icmp .lt 19, 3) := by decide +kernel
theorem dX0_tell_23 : decode cX0_tell 23 = .ok (.iload_n 1, 1) := by decide +kernel
theorem dX0_tell_24 : decode cX0_tell 24 = .ok (.bipush 20, 2) := by decide +kernel
theorem dX0_tell_26 : decode cX0_tell 26 = .ok (.if_icmp .ge 13, 3) := by decide +kernel
theorem dX0_tell_29 : decode cX0_tell 29 = .ok (.aload_n 0, 1) := by decide +kernel
theorem dX0_tell_30 : decode cX0_tell 30 = .ok (.getfield 21, 3) := by decide +kernel
theorem dX0_tell_33 : decode cX0_tell 33 = .ok (.iload_n 1, 1) := by decide +kernel
theorem dX0_tell_34 : decode cX0_tell 34 = .ok (.bipush 10, 2) := by decide +kernel
theorem dX0_tell_36 : decode cX0_tell 36 = .ok (.isub, 1) := by decide +kernel
theorem dX0_tell_37 : decode cX0_tell 37 = .ok (.iaload, 1) := by decide +kernel
theorem dX0_tell_38 : decode cX0_tell 38 = .ok (.ireturn, 1) := by decide +kernel
theorem dX0_tell_39 : decode cX0_tell 39 = .ok (.iload_n 1, 1) := by decide +kernel
theorem dX0_tell_40 : decode cX0_tell 40 = .ok (.tableswitch 110 8 23 #[80, 85, 110, 110, 110, 110, 110, 110, 110, 110, 110, 110, 90, 95, 100, 105], 80) := by decide +kernel
theorem dX0_tell_120 : decode cX0_tell 120 = .ok (.aload_n 0, 1) := by decide +kernel
theorem dX0_tell_121 : decode cX0_tell 121 = .ok (.getfield 62, 3) := by decide +kernel
theorem dX0_tell_124 : decode cX0_tell 124 = .ok (.ireturn, 1) := by decide +kernel
theorem dX0_tell_125 : decode cX0_tell 125 = .ok (.aload_n 0, 1) := by decide +kernel
theorem dX0_tell_126 : decode cX0_tell 126 = .ok (.getfield 65, 3) := by decide +kernel
theorem dX0_tell_129 : decode cX0_tell 129 = .ok (.ireturn, 1) := by decide +kernel
theorem dX0_tell_130 : decode cX0_tell 130 = .ok (.aload_n 0, 1) := by decide +kernel
theorem dX0_tell_131 : decode cX0_tell 131 = .ok (.getfield 56, 3) := by decide +kernel
theorem dX0_tell_134 : decode cX0_tell 134 = .ok (.ireturn, 1) := by decide +kernel
theorem dX0_tell_135 : decode cX0_tell 135 = .ok (.aload_n 0, 1) := by decide +kernel
theorem dX0_tell_136 : decode cX0_tell 136 = .ok (.getfield 59, 3) := by decide +kernel
theorem dX0_tell_139 : decode cX0_tell 139 = .ok (.ireturn, 1) := by decide +kernel
theorem dX0_tell_140 : decode cX0_tell 140 = .ok (.aload_n 0, 1) := by decide +kernel
theorem dX0_tell_141 : decode cX0_tell 141 = .ok (.getfield 68, 3) := by decide +kernel
theorem dX0_tell_144 : decode cX0_tell 144 = .ok (.ireturn, 1) := by decide +kernel
theorem dX0_tell_145 : decode cX0_tell 145 = .ok (.aload_n 0, 1) := by decide +kernel
theorem dX0_tell_146 : decode cX0_tell 146 = .ok (.getfield 71, 3) := by decide +kernel
theorem dX0_tell_149 : decode cX0_tell 149 = .ok (.ireturn, 1) := by decide +kernel
theorem dX0_tell_150 : decode cX0_tell 150 = .ok (.iconst 0, 1) := by decide +kernel
theorem dX0_tell_151 : decode cX0_tell 151 = .ok (.ireturn, 1) := by decide +kernel
theorem dX0_countFaults_0 : decode cX0_countFaults 0 = .ok (.aload_n 0, 1) := by decide +kernel
theorem dX0_countFaults_1 : decode cX0_countFaults 1 = .ok (.getfield 21, 3) := by decide +kernel
theorem dX0_countFaults_4 : decode cX0_countFaults 4 = .ok (.iconst 0, 1) := by decide +kernel
theorem dX0_countFaults_5 : decode cX0_countFaults 5 = .ok (.iaload, 1) := by decide +kernel
theorem dX0_countFaults_6 : decode cX0_countFaults 6 = .ok (.sipush (-1800), 3) := by decide +kernel
theorem dX0_countFaults_9 : decode cX0_countFaults 9 = .ok (.iand, 1) := by decide +kernel
theorem dX0_countFaults_10 : decode cX0_countFaults 10 = .ok (.ifCond .eq 7, 3) := by decide +kernel
theorem dX0_countFaults_13 : decode cX0_countFaults 13 = .ok (.iconst 1, 1) := by decide +kernel
theorem dX0_countFaults_14 : decode cX0_countFaults 14 = .ok (.goto 4, 3) := by decide +kernel
theorem dX0_countFaults_17 : decode cX0_countFaults 17 = .ok (.iconst 0, 1) := by decide +kernel
theorem dX0_countFaults_18 : decode cX0_countFaults 18 = .ok (.istore_n 1, 1) := by decide +kernel
theorem dX0_countFaults_19 : decode cX0_countFaults 19 = .ok (.iload_n 1, 1) := by decide +kernel
theorem dX0_countFaults_20 : decode cX0_countFaults 20 = .ok (.aload_n 0, 1) := by decide +kernel
theorem dX0_countFaults_21 : decode cX0_countFaults 21 = .ok (.getfield 21, 3) := by decide +kernel
theorem dX0_countFaults_24 : decode cX0_countFaults 24 = .ok (.bipush 9, 2) := by decide +kernel
theorem dX0_countFaults_26 : decode cX0_countFaults 26 = .ok (.iaload, 1) := by decide +kernel
theorem dX0_countFaults_27 : decode cX0_countFaults 27 = .ok (.aload_n 0, 1) := by decide +kernel
theorem dX0_countFaults_28 : decode cX0_countFaults 28 = .ok (.getfield 41, 3) := by decide +kernel
theorem dX0_countFaults_31 : decode cX0_countFaults 31 = .ok (.if_icmp .eq 7, 3) := by decide +kernel
theorem dX0_countFaults_34 : decode cX0_countFaults 34 = .ok (.iconst 1, 1) := by decide +kernel
theorem dX0_countFaults_35 : decode cX0_countFaults 35 = .ok (.goto 4, 3) := by decide +kernel
theorem dX0_countFaults_38 : decode cX0_countFaults 38 = .ok (.iconst 0, 1) := by decide +kernel
theorem dX0_countFaults_39 : decode cX0_countFaults 39 = .ok (.iadd, 1) := by decide +kernel
theorem dX0_countFaults_40 : decode cX0_countFaults 40 = .ok (.istore_n 1, 1) := by decide +kernel
theorem dX0_countFaults_41 : decode cX0_countFaults 41 = .ok (.iload_n 1, 1) := by decide +kernel
theorem dX0_countFaults_42 : decode cX0_countFaults 42 = .ok (.aload_n 0, 1) := by decide +kernel
theorem dX0_countFaults_43 : decode cX0_countFaults 43 = .ok (.getfield 65, 3) := by decide +kernel
theorem dX0_countFaults_46 : decode cX0_countFaults 46 = .ok (.ifCond .eq 15, 3) := by decide +kernel
theorem dX0_countFaults_49 : decode cX0_countFaults 49 = .ok (.aload_n 0, 1) := by decide +kernel
theorem dX0_countFaults_50 : decode cX0_countFaults 50 = .ok (.getfield 65, 3) := by decide +kernel
theorem dX0_countFaults_53 : decode cX0_countFaults 53 = .ok (.iconst 1, 1) := by decide +kernel
theorem dX0_countFaults_54 : decode cX0_countFaults 54 = .ok (.if_icmp .eq 7, 3) := by decide +kernel
theorem dX0_countFaults_57 : decode cX0_countFaults 57 = .ok (.iconst 1, 1) := by decide +kernel
theorem dX0_countFaults_58 : decode cX0_countFaults 58 = .ok (.goto 4, 3) := by decide +kernel
theorem dX0_countFaults_61 : decode cX0_countFaults 61 = .ok (.iconst 0, 1) := by decide +kernel
theorem dX0_countFaults_62 : decode cX0_countFaults 62 = .ok (.iadd, 1) := by decide +kernel
theorem dX0_countFaults_63 : decode cX0_countFaults 63 = .ok (.istore_n 1, 1) := by decide +kernel
theorem dX0_countFaults_64 : decode cX0_countFaults 64 = .ok (.iload_n 1, 1) := by decide +kernel
theorem dX0_countFaults_65 : decode cX0_countFaults 65 = .ok (.aload_n 0, 1) := by decide +kernel
theorem dX0_countFaults_66 : decode cX0_countFaults 66 = .ok (.getfield 56, 3) := by decide +kernel
theorem dX0_countFaults_69 : decode cX0_countFaults 69 = .ok (.ifCond .lt 12, 3) := by decide +kernel
theorem dX0_countFaults_72 : decode cX0_countFaults 72 = .ok (.aload_n 0, 1) := by decide +kernel
theorem dX0_countFaults_73 : decode cX0_countFaults 73 = .ok (.getfield 56, 3) := by decide +kernel
theorem dX0_countFaults_76 : decode cX0_countFaults 76 = .ok (.bipush 64, 2) := by decide +kernel
theorem dX0_countFaults_78 : decode cX0_countFaults 78 = .ok (.if_icmp .le 7, 3) := by decide +kernel
theorem dX0_countFaults_81 : decode cX0_countFaults 81 = .ok (.iconst 1, 1) := by decide +kernel
theorem dX0_countFaults_82 : decode cX0_countFaults 82 = .ok (.goto 4, 3) := by decide +kernel
theorem dX0_countFaults_85 : decode cX0_countFaults 85 = .ok (.iconst 0, 1) := by decide +kernel
theorem dX0_countFaults_86 : decode cX0_countFaults 86 = .ok (.iadd, 1) := by decide +kernel
theorem dX0_countFaults_87 : decode cX0_countFaults 87 = .ok (.istore_n 1, 1) := by decide +kernel
theorem dX0_countFaults_88 : decode cX0_countFaults 88 = .ok (.aload_n 0, 1) := by decide +kernel
theorem dX0_countFaults_89 : decode cX0_countFaults 89 = .ok (.getfield 21, 3) := by decide +kernel
theorem dX0_countFaults_92 : decode cX0_countFaults 92 = .ok (.iconst 5, 1) := by decide +kernel
theorem dX0_countFaults_93 : decode cX0_countFaults 93 = .ok (.iaload, 1) := by decide +kernel
theorem dX0_countFaults_94 : decode cX0_countFaults 94 = .ok (.istore_n 2, 1) := by decide +kernel
theorem dX0_countFaults_95 : decode cX0_countFaults 95 = .ok (.iconst 0, 1) := by decide +kernel
theorem dX0_countFaults_96 : decode cX0_countFaults 96 = .ok (.istore_n 3, 1) := by decide +kernel
theorem dX0_countFaults_97 : decode cX0_countFaults 97 = .ok (.iload_n 3, 1) := by decide +kernel
theorem dX0_countFaults_98 : decode cX0_countFaults 98 = .ok (.sipush 256, 3) := by decide +kernel
theorem dX0_countFaults_101 : decode cX0_countFaults 101 = .ok (.if_icmp .ge 91, 3) := by decide +kernel
theorem dX0_countFaults_104 : decode cX0_countFaults 104 = .ok (.aload_n 0, 1) := by decide +kernel
theorem dX0_countFaults_105 : decode cX0_countFaults 105 = .ok (.getfield 24, 3) := by decide +kernel
theorem dX0_countFaults_108 : decode cX0_countFaults 108 = .ok (.iload_n 3, 1) := by decide +kernel
theorem dX0_countFaults_109 : decode cX0_countFaults 109 = .ok (.iaload, 1) := by decide +kernel
theorem dX0_countFaults_110 : decode cX0_countFaults 110 = .ok (.istore 4, 2) := by decide +kernel
theorem dX0_countFaults_112 : decode cX0_countFaults 112 = .ok (.iload_n 2, 1) := by decide +kernel
theorem dX0_countFaults_113 : decode cX0_countFaults 113 = .ok (.ifCond .ge 23, 3) := by decide +kernel
theorem dX0_countFaults_116 : decode cX0_countFaults 116 = .ok (.aload_n 0, 1) := by decide +kernel
theorem dX0_countFaults_117 : decode cX0_countFaults 117 = .ok (.bipush 64, 2) := by decide +kernel
theorem dX0_countFaults_119 : decode cX0_countFaults 119 = .ok (.iload_n 2, 1) := by decide +kernel
theorem dX0_countFaults_120 : decode cX0_countFaults 120 = .ok (.bipush 63, 2) := by decide +kernel
theorem dX0_countFaults_122 : decode cX0_countFaults 122 = .ok (.iand, 1) := by decide +kernel
theorem dX0_countFaults_123 : decode cX0_countFaults 123 = .ok (.imul, 1) := by decide +kernel
theorem dX0_countFaults_124 : decode cX0_countFaults 124 = .ok (.iload_n 3, 1) := by decide +kernel
theorem dX0_countFaults_125 : decode cX0_countFaults 125 = .ok (.iadd, 1) := by decide +kernel
theorem dX0_countFaults_126 : decode cX0_countFaults 126 = .ok (.invokevirtual 89, 3) := by decide +kernel
theorem dX0_countFaults_129 : decode cX0_countFaults 129 = .ok (.ifCond .eq 7, 3) := by decide +kernel
theorem dX0_countFaults_132 : decode cX0_countFaults 132 = .ok (.iconst 1, 1) := by decide +kernel
theorem dX0_countFaults_133 : decode cX0_countFaults 133 = .ok (.goto 4, 3) := by decide +kernel
theorem dX0_countFaults_136 : decode cX0_countFaults 136 = .ok (.iconst 0, 1) := by decide +kernel
theorem dX0_countFaults_137 : decode cX0_countFaults 137 = .ok (.istore 5, 2) := by decide +kernel
theorem dX0_countFaults_139 : decode cX0_countFaults 139 = .ok (.iload 4, 2) := by decide +kernel
theorem dX0_countFaults_141 : decode cX0_countFaults 141 = .ok (.iconst (-1), 1) := by decide +kernel
theorem dX0_countFaults_142 : decode cX0_countFaults 142 = .ok (.if_icmp .eq 24, 3) := by decide +kernel
theorem dX0_countFaults_145 : decode cX0_countFaults 145 = .ok (.iload 4, 2) := by decide +kernel
theorem dX0_countFaults_147 : decode cX0_countFaults 147 = .ok (.ifCond .lt 23, 3) := by decide +kernel
theorem dX0_countFaults_150 : decode cX0_countFaults 150 = .ok (.iload 4, 2) := by decide +kernel
theorem dX0_countFaults_152 : decode cX0_countFaults 152 = .ok (.iconst 3, 1) := by decide +kernel
theorem dX0_countFaults_153 : decode cX0_countFaults 153 = .ok (.ishr, 1) := by decide +kernel
theorem dX0_countFaults_154 : decode cX0_countFaults 154 = .ok (.aload_n 0, 1) := by decide +kernel
theorem dX0_countFaults_155 : decode cX0_countFaults 155 = .ok (.getfield 41, 3) := by decide +kernel
theorem dX0_countFaults_158 : decode cX0_countFaults 158 = .ok (.if_icmp .ge 12, 3) := by decide +kernel
theorem dX0_countFaults_161 : decode cX0_countFaults 161 = .ok (.iload 5, 2) := by decide +kernel
theorem dX0_countFaults_163 : decode cX0_countFaults 163 = .ok (.ifCond .eq 7, 3) := by decide +kernel
theorem dX0_countFaults_166 : decode cX0_countFaults 166 = .ok (.iconst 1, 1) := by decide +kernel
theorem dX0_countFaults_167 : decode cX0_countFaults 167 = .ok (.goto 4, 3) := by decide +kernel
theorem dX0_countFaults_170 : decode cX0_countFaults 170 = .ok (.iconst 0, 1) := by decide +kernel
theorem dX0_countFaults_171 : decode cX0_countFaults 171 = .ok (.istore 6, 2) := by decide +kernel
theorem dX0_countFaults_173 : decode cX0_countFaults 173 = .ok (.iload_n 1, 1) := by decide +kernel
theorem dX0_countFaults_174 : decode cX0_countFaults 174 = .ok (.iload 6, 2) := by decide +kernel
theorem dX0_countFaults_176 : decode cX0_countFaults 176 = .ok (.ifCond .eq 7, 3) := by decide +kernel
theorem dX0_countFaults_179 : decode cX0_countFaults 179 = .ok (.iconst 0, 1) := by decide +kernel
theorem dX0_countFaults_180 : decode cX0_countFaults 180 = .ok (.goto 4, 3) := by decide +kernel
theorem dX0_countFaults_183 : decode cX0_countFaults 183 = .ok (.iconst 1, 1) := by decide +kernel
theorem dX0_countFaults_184 : decode cX0_countFaults 184 = .ok (.iadd, 1) := by decide +kernel
theorem dX0_countFaults_185 : decode cX0_countFaults 185 = .ok (.istore_n 1, 1) := by decide +kernel
theorem dX0_countFaults_186 : decode cX0_countFaults 186 = .ok (.iinc 3 1, 3) := by decide +kernel
theorem dX0_countFaults_189 : decode cX0_countFaults 189 = .ok (.goto (-92), 3) := by decide +kernel
theorem dX0_countFaults_192 : decode cX0_countFaults 192 = .ok (.iload_n 1, 1) := by decide +kernel
theorem dX0_countFaults_193 : decode cX0_countFaults 193 = .ok (.ireturn, 1) := by decide +kernel
