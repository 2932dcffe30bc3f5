theorem dX1_init_0 : decode cX1_init 0 = .ok (.aload_n 0, 1) := by decide +kernel
theorem dX1_init_1 : decode cX1_init 1 = .ok (.invokespecial 3, 3) := by decide +kernel
theorem dX1_init_4 : decode cX1_init 4 = .ok (.aload_n 0, 1) := by decide +kernel
theorem dX1_init_5 : decode cX1_init 5 = .ok (.sipush 256, 3) := by decide +kernel
theorem dX1_init_8 : decode cX1_init 8 = .ok (.newarray .int, 2) := by decide +kernel
theorem dX1_init_10 : decode cX1_init 10 = .ok (.putfield 9, 3) := by decide +kernel
theorem dX1_init_13 : decode cX1_init 13 = .ok (.aload_n 0, 1) := by decide +kernel
theorem dX1_init_14 : decode cX1_init 14 = .ok (.sipush 256, 3) := by decide +kernel
theorem dX1_init_17 : decode cX1_init 17 = .ok (.newarray .int, 2) := by decide +kernel
theorem dX1_init_19 : decode cX1_init 19 = .ok (.putfield 15, 3) := by decide +kernel
theorem dX1_init_22 : decode cX1_init 22 = .ok (.aload_n 0, 1) := by decide +kernel
theorem dX1_init_23 : decode cX1_init 23 = .ok (.sipush 256, 3) := by decide +kernel
theorem dX1_init_26 : decode cX1_init 26 = .ok (.newarray .int, 2) := by decide +kernel
theorem dX1_init_28 : decode cX1_init 28 = .ok (.putfield 18, 3) := by decide +kernel
theorem dX1_init_31 : decode cX1_init 31 = .ok (.aload_n 0, 1) := by decide +kernel
theorem dX1_init_32 : decode cX1_init 32 = .ok (.sipush 256, 3) := by decide +kernel
theorem dX1_init_35 : decode cX1_init 35 = .ok (.newarray .boolean, 2) := by decide +kernel
theorem dX1_init_37 : decode cX1_init 37 = .ok (.putfield 21, 3) := by decide +kernel
theorem dX1_init_40 : decode cX1_init 40 = .ok (.aload_n 0, 1) := by decide +kernel
theorem dX1_init_41 : decode cX1_init 41 = .ok (.sipush 513, 3) := by decide +kernel
theorem dX1_init_44 : decode cX1_init 44 = .ok (.newarray .int, 2) := by decide +kernel
theorem dX1_init_46 : decode cX1_init 46 = .ok (.putfield 25, 3) := by decide +kernel
theorem dX1_init_49 : decode cX1_init 49 = .ok (.aload_n 0, 1) := by decide +kernel
theorem dX1_init_50 : decode cX1_init 50 = .ok (.sipush 513, 3) := by decide +kernel
theorem dX1_init_53 : decode cX1_init 53 = .ok (.newarray .int, 2) := by decide +kernel
theorem dX1_init_55 : decode cX1_init 55 = .ok (.putfield 28, 3) := by decide +kernel
theorem dX1_init_58 : decode cX1_init 58 = .ok (.aload_n 0, 1) := by decide +kernel
theorem dX1_init_59 : decode cX1_init 59 = .ok (.sipush 513, 3) := by decide +kernel
theorem dX1_init_62 : decode cX1_init 62 = .ok (.newarray .boolean, 2) := by decide +kernel
theorem dX1_init_64 : decode cX1_init 64 = .ok (.putfield 31, 3) := by decide +kernel
theorem dX1_init_67 : decode cX1_init 67 = .ok (.aload_n 0, 1) := by decide +kernel
theorem dX1_init_68 : decode cX1_init 68 = .ok (.sipush 513, 3) := by decide +kernel
theorem dX1_init_71 : decode cX1_init 71 = .ok (.newarray .int, 2) := by decide +kernel
theorem dX1_init_73 : decode cX1_init 73 = .ok (.putfield 34, 3) := by decide +kernel
theorem dX1_init_76 : decode cX1_init 76 = .ok (.aload_n 0, 1) := by decide +kernel
theorem dX1_init_77 : decode cX1_init 77 = .ok (.sipush 513, 3) := by decide +kernel
theorem dX1_init_80 : decode cX1_init 80 = .ok (.newarray .int, 2) := by decide +kernel
theorem dX1_init_82 : decode cX1_init 82 = .ok (.putfield 37, 3) := by decide +kernel
theorem dX1_init_85 : decode cX1_init 85 = .ok (.return_, 1) := by decide +kernel
theorem dX1_renew_0 : decode cX1_renew 0 = .ok (.aload_n 0, 1) := by decide +kernel
theorem dX1_renew_1 : decode cX1_renew 1 = .ok (.iload_n 1, 1) := by decide +kernel
theorem dX1_renew_2 : decode cX1_renew 2 = .ok (.putfield 40, 3) := by decide +kernel
theorem dX1_renew_5 : decode cX1_renew 5 = .ok (.aload_n 0, 1) := by decide +kernel
theorem dX1_renew_6 : decode cX1_renew 6 = .ok (.iconst 0, 1) := by decide +kernel
theorem dX1_renew_7 : decode cX1_renew 7 = .ok (.putfield 44, 3) := by decide +kernel
theorem dX1_renew_10 : decode cX1_renew 10 = .ok (.aload_n 0, 1) := by decide +kernel
theorem dX1_renew_11 : decode cX1_renew 11 = .ok (.iconst 0, 1) := by decide +kernel
theorem dX1_renew_12 : decode cX1_renew 12 = .ok (.putfield 47, 3) := by decide +kernel
theorem dX1_renew_15 : decode cX1_renew 15 = .ok (.aload_n 0, 1) := by decide +kernel
theorem dX1_renew_16 : decode cX1_renew 16 = .ok (.getfield 18, 3) := by decide +kernel
theorem dX1_renew_19 : decode cX1_renew 19 = .ok (.iconst (-1), 1) := by decide +kernel
theorem dX1_renew_20 : decode cX1_renew 20 = .ok (.invokestatic 50, 3) := by decide +kernel
theorem dX1_renew_23 : decode cX1_renew 23 = .ok (.aload_n 0, 1) := by decide +kernel
theorem dX1_renew_24 : decode cX1_renew 24 = .ok (.getfield 25, 3) := by decide +kernel
theorem dX1_renew_27 : decode cX1_renew 27 = .ok (.iconst 0, 1) := by decide +kernel
theorem dX1_renew_28 : decode cX1_renew 28 = .ok (.invokestatic 50, 3) := by decide +kernel
theorem dX1_renew_31 : decode cX1_renew 31 = .ok (.aload_n 0, 1) := by decide +kernel
theorem dX1_renew_32 : decode cX1_renew 32 = .ok (.getfield 28, 3) := by decide +kernel
theorem dX1_renew_35 : decode cX1_renew 35 = .ok (.iconst (-1), 1) := by decide +kernel
theorem dX1_renew_36 : decode cX1_renew 36 = .ok (.invokestatic 50, 3) := by decide +kernel
theorem dX1_renew_39 : decode cX1_renew 39 = .ok (.iconst 0, 1) := by decide +kernel
theorem dX1_renew_40 : decode cX1_renew 40 = .ok (.istore_n 2, 1) := by decide +kernel
theorem dX1_renew_41 : decode cX1_renew 41 = .ok (.iload_n 2, 1) := by decide +kernel
theorem dX1_renew_42 : decode cX1_renew 42 = .ok (.sipush 513, 3) := by decide +kernel
theorem dX1_renew_45 : decode cX1_renew 45 = .ok (.if_icmp .ge 16, 3) := by decide +kernel
theorem dX1_renew_48 : decode cX1_renew 48 = .ok (.aload_n 0, 1) := by decide +kernel
theorem dX1_renew_49 : decode cX1_renew 49 = .ok (.getfield 31, 3) := by decide +kernel
theorem dX1_renew_52 : decode cX1_renew 52 = .ok (.iload_n 2, 1) := by decide +kernel
theorem dX1_renew_53 : decode cX1_renew 53 = .ok (.iconst 0, 1) := by decide +kernel
theorem dX1_renew_54 : decode cX1_renew 54 = .ok (.bastore, 1) := by decide +kernel
theorem dX1_renew_55 : decode cX1_renew 55 = .ok (.iinc 2 1, 3) := by decide +kernel
theorem dX1_renew_58 : decode cX1_renew 58 = .ok (.goto (-17), 3) := by decide +kernel
theorem dX1_renew_61 : decode cX1_renew 61 = .ok (.aload_n 0, 1) := by decide +kernel
theorem dX1_renew_62 : decode cX1_renew 62 = .ok (.getfield 25, 3) := by decide +kernel
theorem dX1_renew_65 : decode cX1_renew 65 = .ok (.iconst 0, 1) := by decide +kernel
theorem dX1_renew_66 : decode cX1_renew 66 = .ok (.iconst 1, 1) := by decide +kernel
theorem dX1_renew_67 : decode cX1_renew 67 = .ok (.iastore, 1) := by decide +kernel
theorem dX1_renew_68 : decode cX1_renew 68 = .ok (.aload_n 0, 1) := by decide +kernel
theorem dX1_renew_69 : decode cX1_renew 69 = .ok (.iconst 0, 1) := by decide +kernel
theorem dX1_renew_70 : decode cX1_renew 70 = .ok (.putfield 56, 3) := by decide +kernel
theorem dX1_renew_73 : decode cX1_renew 73 = .ok (.sipush 512, 3) := by decide +kernel
theorem dX1_renew_76 : decode cX1_renew 76 = .ok (.istore_n 2, 1) := by decide +kernel
theorem dX1_renew_77 : decode cX1_renew 77 = .ok (.iload_n 2, 1) := by decide +kernel
theorem dX1_renew_78 : decode cX1_renew 78 = .ok (.ifCond .le 29, 3) := by decide +kernel
theorem dX1_renew_81 : decode cX1_renew 81 = .ok (.aload_n 0, 1) := by decide +kernel
theorem dX1_renew_82 : decode cX1_renew 82 = .ok (.getfield 34, 3) := by decide +kernel
theorem dX1_renew_85 : decode cX1_renew 85 = .ok (.aload_n 0, 1) := by decide +kernel
theorem dX1_renew_86 : decode cX1_renew 86 = .ok (.getfield 56, 3) := by decide +kernel
theorem dX1_renew_89 : decode cX1_renew 89 = .ok (.iload_n 2, 1) := by decide +kernel
theorem dX1_renew_90 : decode cX1_renew 90 = .ok (.iastore, 1) := by decide +kernel
theorem dX1_renew_91 : decode cX1_renew 91 = .ok (.aload_n 0, 1) := by decide +kernel
theorem dX1_renew_92 : decode cX1_renew 92 = .ok (.dup, 1) := by decide +kernel
theorem dX1_renew_93 : decode cX1_renew 93 = .ok (.getfield 56, 3) := by decide +kernel
theorem dX1_renew_96 : decode cX1_renew 96 = .ok (.iconst 1, 1) := by decide +kernel
theorem dX1_renew_97 : decode cX1_renew 97 = .ok (.iadd, 1) := by decide +kernel
theorem dX1_renew_98 : decode cX1_renew 98 = .ok (.putfield 56, 3) := by decide +kernel
theorem dX1_renew_101 : decode cX1_renew 101 = .ok (.iinc 2 (-1), 3) := by decide +kernel
theorem dX1_renew_104 : decode cX1_renew 104 = .ok (.goto (-27), 3) := by decide +kernel
theorem dX1_renew_107 : decode cX1_renew 107 = .ok (.return_, 1) := by decide +kernel
theorem dX1_lendBlank_0 : decode cX1_lendBlank 0 = .ok (.iconst 0, 1) := by decide +kernel
theorem dX1_lendBlank_1 : decode cX1_lendBlank 1 = .ok (.istore_n 2, 1) := by decide +kernel
theorem dX1_lendBlank_2 : decode cX1_lendBlank 2 = .ok (.iload_n 2, 1) := by decide +kernel
theorem dX1_lendBlank_3 : decode cX1_lendBlank 3 = .ok (.aload_n 1, 1) := by decide +kernel
theorem dX1_lendBlank_4 : decode cX1_lendBlank 4 = .ok (.getfield 59, 3) := by decide +kernel
theorem dX1_lendBlank_7 : decode cX1_lendBlank 7 = .ok (.if_icmp .ge 32, 3) := by decide +kernel
theorem dX1_lendBlank_10 : decode cX1_lendBlank 10 = .ok (.iload_n 2, 1) := by decide +kernel
theorem dX1_lendBlank_11 : decode cX1_lendBlank 11 = .ok (.bipush 64, 2) := by decide +kernel
theorem dX1_lendBlank_13 : decode cX1_lendBlank 13 = .ok (.if_icmp .ge 26, 3) := by decide +kernel
theorem dX1_lendBlank_16 : decode cX1_lendBlank 16 = .ok (.aload_n 1, 1) := by decide +kernel
theorem dX1_lendBlank_17 : decode cX1_lendBlank 17 = .ok (.getfield 62, 3) := by decide +kernel
theorem dX1_lendBlank_20 : decode cX1_lendBlank 20 = .ok (.iload_n 2, 1) := by decide +kernel
theorem dX1_lendBlank_21 : decode cX1_lendBlank 21 = .ok (.iconst 0, 1) := by decide +kernel
theorem dX1_lendBlank_22 : decode cX1_lendBlank 22 = .ok (.iastore, 1) := by decide +kernel
theorem dX1_lendBlank_23 : decode cX1_lendBlank 23 = .ok (.aload_n 0, 1) := by decide +kernel
theorem dX1_lendBlank_24 : decode cX1_lendBlank 24 = .ok (.getfield 25, 3) := by decide +kernel
theorem dX1_lendBlank_27 : decode cX1_lendBlank 27 = .ok (.iconst 0, 1) := by decide +kernel
theorem dX1_lendBlank_28 : decode cX1_lendBlank 28 = .ok (.dup2, 1) := by decide +kernel
theorem dX1_lendBlank_29 : decode cX1_lendBlank 29 = .ok (.iaload, 1) := by decide +kernel
theorem dX1_lendBlank_30 : decode cX1_lendBlank 30 = .ok (.iconst 1, 1) := by decide +kernel
theorem dX1_lendBlank_31 : decode cX1_lendBlank 31 = .ok (.iadd, 1) := by decide +kernel
theorem dX1_lendBlank_32 : decode cX1_lendBlank 32 = .ok (.iastore, 1) := by decide +kernel
theorem dX1_lendBlank_33 : decode cX1_lendBlank 33 = .ok (.iinc 2 1, 3) := by decide +kernel
theorem dX1_lendBlank_36 : decode cX1_lendBlank 36 = .ok (.goto (-34), 3) := by decide +kernel
theorem dX1_lendBlank_39 : decode cX1_lendBlank 39 = .ok (.return_, 1) := by decide +kernel
theorem dX1_shareSheets_0 : decode cX1_shareSheets 0 = .ok (.iconst 0, 1) := by decide +kernel
theorem dX1_shareSheets_1 : decode cX1_shareSheets 1 = .ok (.istore_n 3, 1) := by decide +kernel
theorem dX1_shareSheets_2 : decode cX1_shareSheets 2 = .ok (.iload_n 3, 1) := by decide +kernel
theorem dX1_shareSheets_3 : decode cX1_shareSheets 3 = .ok (.aload_n 1, 1) := by decide +kernel
theorem dX1_shareSheets_4 : decode cX1_shareSheets 4 = .ok (.getfield 59, 3) := by decide +kernel
theorem dX1_shareSheets_7 : decode cX1_shareSheets 7 = .ok (.if_icmp .ge 51, 3) := by decide +kernel
theorem dX1_shareSheets_10 : decode cX1_shareSheets 10 = .ok (.iload_n 3, 1) := by decide +kernel
theorem dX1_shareSheets_11 : decode cX1_shareSheets 11 = .ok (.bipush 64, 2) := by decide +kernel
theorem dX1_shareSheets_13 : decode cX1_shareSheets 13 = .ok (.if_icmp .ge 45, 3) := by decide +kernel
theorem dX1_shareSheets_16 : decode cX1_shareSheets 16 = .ok (.aload_n 1, 1) := by decide +kernel
theorem dX1_shareSheets_17 : decode cX1_shareSheets 17 = .ok (.getfield 62, 3) := by decide +kernel
theorem dX1_shareSheets_20 : decode cX1_shareSheets 20 = .ok (.iload_n 3, 1) := by decide +kernel
theorem dX1_shareSheets_21 : decode cX1_shareSheets 21 = .ok (.iaload, 1) := by decide +kernel
theorem dX1_shareSheets_22 : decode cX1_shareSheets 22 = .ok (.istore 4, 2) := by decide +kernel
theorem dX1_shareSheets_24 : decode cX1_shareSheets 24 = .ok (.aload_n 2, 1) := by decide +kernel
theorem dX1_shareSheets_25 : decode cX1_shareSheets 25 = .ok (.getfield 62, 3) := by decide +kernel
theorem dX1_shareSheets_28 : decode cX1_shareSheets 28 = .ok (.iload_n 3, 1) := by decide +kernel
theorem dX1_shareSheets_29 : decode cX1_shareSheets 29 = .ok (.iload 4, 2) := by decide +kernel
theorem dX1_shareSheets_31 : decode cX1_shareSheets 31 = .ok (.iastore, 1) := by decide +kernel
theorem dX1_shareSheets_32 : decode cX1_shareSheets 32 = .ok (.aload_n 0, 1) := by decide +kernel
theorem dX1_shareSheets_33 : decode cX1_shareSheets 33 = .ok (.iload 4, 2) := by decide +kernel
theorem dX1_shareSheets_35 : decode cX1_shareSheets 35 = .ok (.invokevirtual 65, 3) := by decide +kernel
theorem dX1_shareSheets_38 : decode cX1_shareSheets 38 = .ok (.ifCond .eq 14, 3) := by decide +kernel
theorem dX1_shareSheets_41 : decode cX1_shareSheets 41 = .ok (.aload_n 0, 1) := by decide +kernel
theorem dX1_shareSheets_42 : decode cX1_shareSheets 42 = .ok (.getfield 25, 3) := by decide +kernel
theorem dX1_shareSheets_45 : decode cX1_shareSheets 45 = .ok (.iload 4, 2) := by decide +kernel
theorem dX1_shareSheets_47 : decode cX1_shareSheets 47 = .ok (.dup2, 1) := by decide +kernel
theorem dX1_shareSheets_48 : decode cX1_shareSheets 48 = .ok (.iaload, 1) := by decide +kernel
theorem dX1_shareSheets_49 : decode cX1_shareSheets 49 = .ok (.iconst 1, 1) := by decide +kernel
theorem dX1_shareSheets_50 : decode cX1_shareSheets 50 = .ok (.iadd, 1) := by decide +kernel
theorem dX1_shareSheets_51 : decode cX1_shareSheets 51 = .ok (.iastore, 1) := by decide +kernel
theorem dX1_shareSheets_52 : decode cX1_shareSheets 52 = .ok (.iinc 3 1, 3) := by decide +kernel
theorem dX1_shareSheets_55 : decode cX1_shareSheets 55 = .ok (.goto (-53), 3) := by decide +kernel
theorem dX1_shareSheets_58 : decode cX1_shareSheets 58 = .ok (.return_, 1) := by decide +kernel
theorem dX1_release_0 : decode cX1_release 0 = .ok (.iconst 0, 1) := by decide +kernel
theorem dX1_release_1 : decode cX1_release 1 = .ok (.istore_n 2, 1) := by decide +kernel
theorem dX1_release_2 : decode cX1_release 2 = .ok (.iload_n 2, 1) := by decide +kernel
theorem dX1_release_3 : decode cX1_release 3 = .ok (.aload_n 1, 1) := by decide +kernel
theorem dX1_release_4 : decode cX1_release 4 = .ok (.getfield 59, 3) := by decide +kernel
theorem dX1_release_7 : decode cX1_release 7 = .ok (.if_icmp .ge 54, 3) := by decide +kernel
theorem dX1_release_10 : decode cX1_release 10 = .ok (.iload_n 2, 1) := by decide +kernel
theorem dX1_release_11 : decode cX1_release 11 = .ok (.bipush 64, 2) := by decide +kernel
theorem dX1_release_13 : decode cX1_release 13 = .ok (.if_icmp .ge 48, 3) := by decide +kernel
theorem dX1_release_16 : decode cX1_release 16 = .ok (.aload_n 1, 1) := by decide +kernel
theorem dX1_release_17 : decode cX1_release 17 = .ok (.getfield 62, 3) := by decide +kernel
theorem dX1_release_20 : decode cX1_release 20 = .ok (.iload_n 2, 1) := by decide +kernel
theorem dX1_release_21 : decode cX1_release 21 = .ok (.iaload, 1) := by decide +kernel
theorem dX1_release_22 : decode cX1_release 22 = .ok (.istore_n 3, 1) := by decide +kernel
theorem dX1_release_23 : decode cX1_release 23 = .ok (.aload_n 0, 1) := by decide +kernel
theorem dX1_release_24 : decode cX1_release 24 = .ok (.iload_n 3, 1) := by decide +kernel
theorem dX1_release_25 : decode cX1_release 25 = .ok (.invokevirtual 65, 3) := by decide +kernel
theorem dX1_release_28 : decode cX1_release 28 = .ok (.ifCond .eq 27, 3) := by decide +kernel
theorem dX1_release_31 : decode cX1_release 31 = .ok (.aload_n 0, 1) := by decide +kernel
theorem dX1_release_32 : decode cX1_release 32 = .ok (.getfield 25, 3) := by decide +kernel
theorem dX1_release_35 : decode cX1_release 35 = .ok (.iload_n 3, 1) := by decide +kernel
theorem dX1_release_36 : decode cX1_release 36 = .ok (.dup2, 1) := by decide +kernel
theorem dX1_release_37 : decode cX1_release 37 = .ok (.iaload, 1) := by decide +kernel
theorem dX1_release_38 : decode cX1_release 38 = .ok (.iconst 1, 1) := by decide +kernel
theorem dX1_release_39 : decode cX1_release 39 = .ok (.isub, 1) := by decide +kernel
theorem dX1_release_40 : decode cX1_release 40 = .ok (.iastore, 1) := by decide +kernel
theorem dX1_release_41 : decode cX1_release 41 = .ok (.aload_n 0, 1) := by decide +kernel
theorem dX1_release_42 : decode cX1_release 42 = .ok (.getfield 25, 3) := by decide +kernel
theorem dX1_release_45 : decode cX1_release 45 = .ok (.iload_n 3, 1) := by decide +kernel
theorem dX1_release_46 : decode cX1_release 46 = .ok (.iaload, 1) := by decide +kernel
theorem dX1_release_47 : decode cX1_release 47 = .ok (.ifCond .ne 8, 3) := by decide +kernel
theorem dX1_release_50 : decode cX1_release 50 = .ok (.aload_n 0, 1) := by decide +kernel
theorem dX1_release_51 : decode cX1_release 51 = .ok (.iload_n 3, 1) := by decide +kernel
theorem dX1_release_52 : decode cX1_release 52 = .ok (.invokevirtual 69, 3) := by decide +kernel
theorem dX1_release_55 : decode cX1_release 55 = .ok (.iinc 2 1, 3) := by decide +kernel
theorem dX1_release_58 : decode cX1_release 58 = .ok (.goto (-56), 3) := by decide +kernel
theorem dX1_release_61 : decode cX1_release 61 = .ok (.return_, 1) := by decide +kernel
theorem dX1_read_0 : decode cX1_read 0 = .ok (.aload_n 1, 1) := by decide +kernel
theorem dX1_read_1 : decode cX1_read 1 = .ok (.iload_n 2, 1) := by decide +kernel
theorem dX1_read_2 : decode cX1_read 2 = .ok (.invokevirtual 73, 3) := by decide +kernel
theorem dX1_read_5 : decode cX1_read 5 = .ok (.ifCond .eq 19, 3) := by decide +kernel
theorem dX1_read_8 : decode cX1_read 8 = .ok (.aload_n 0, 1) := by decide +kernel
theorem dX1_read_9 : decode cX1_read 9 = .ok (.aload_n 1, 1) := by decide +kernel
theorem dX1_read_10 : decode cX1_read 10 = .ok (.getfield 62, 3) := by decide +kernel
theorem dX1_read_13 : decode cX1_read 13 = .ok (.iload_n 2, 1) := by decide +kernel
theorem dX1_read_14 : decode cX1_read 14 = .ok (.bipush 6, 2) := by decide +kernel
theorem dX1_read_16 : decode cX1_read 16 = .ok (.ishr, 1) := by decide +kernel
theorem dX1_read_17 : decode cX1_read 17 = .ok (.iaload, 1) := by decide +kernel
theorem dX1_read_18 : decode cX1_read 18 = .ok (.invokevirtual 76, 3) := by decide +kernel
theorem dX1_read_21 : decode cX1_read 21 = .ok (.goto 4, 3) := by decide +kernel
theorem dX1_read_24 : decode cX1_read 24 = .ok (.iconst (-1), 1) := by decide +kernel
theorem dX1_read_25 : decode cX1_read 25 = .ok (.istore_n 3, 1) := by decide +kernel
theorem dX1_read_26 : decode cX1_read 26 = .ok (.iload_n 3, 1) := by decide +kernel
theorem dX1_read_27 : decode cX1_read 27 = .ok (.iconst (-1), 1) := by decide +kernel
theorem dX1_read_28 : decode cX1_read 28 = .ok (.if_icmp .ne 7, 3) := by decide +kernel
theorem dX1_read_31 : decode cX1_read 31 = .ok (.iconst 0, 1) := by decide +kernel
theorem dX1_read_32 : decode cX1_read 32 = .ok (.goto 17, 3) := by decide +kernel
theorem dX1_read_35 : decode cX1_read 35 = .ok (.aload_n 0, 1) := by decide +kernel
theorem dX1_read_36 : decode cX1_read 36 = .ok (.getfield 9, 3) := by decide +kernel
theorem dX1_read_39 : decode cX1_read 39 = .ok (.iload_n 3, 1) := by decide +kernel
theorem dX1_read_40 : decode cX1_read 40 = .ok (.bipush 64, 2) := by decide +kernel
theorem dX1_read_42 : decode cX1_read 42 = .ok (.imul, 1) := by decide +kernel
theorem dX1_read_43 : decode cX1_read 43 = .ok (.iload_n 2, 1) := by decide +kernel
theorem dX1_read_44 : decode cX1_read 44 = .ok (.bipush 63, 2) := by decide +kernel
theorem dX1_read_46 : decode cX1_read 46 = .ok (.iand, 1) := by decide +kernel
theorem dX1_read_47 : decode cX1_read 47 = .ok (.iadd, 1) := by decide +kernel
theorem dX1_read_48 : decode cX1_read 48 = .ok (.iaload, 1) := by decide +kernel
theorem dX1_read_49 : decode cX1_read 49 = .ok (.ireturn, 1) := by decide +kernel
theorem dX1_write_0 : decode cX1_write 0 = .ok (.aload_n 1, 1) := by decide +kernel
theorem dX1_write_1 : decode cX1_write 1 = .ok (.iload_n 2, 1) := by decide +kernel
theorem dX1_write_2 : decode cX1_write 2 = .ok (.invokevirtual 73, 3) := by decide +kernel
theorem dX1_write_5 : decode cX1_write 5 = .ok (.ifCond .eq 19, 3) := by decide +kernel
theorem dX1_write_8 : decode cX1_write 8 = .ok (.aload_n 0, 1) := by decide +kernel
theorem dX1_write_9 : decode cX1_write 9 = .ok (.aload_n 1, 1) := by decide +kernel
theorem dX1_write_10 : decode cX1_write 10 = .ok (.getfield 62, 3) := by decide +kernel
theorem dX1_write_13 : decode cX1_write 13 = .ok (.iload_n 2, 1) := by decide +kernel
theorem dX1_write_14 : decode cX1_write 14 = .ok (.bipush 6, 2) := by decide +kernel
theorem dX1_write_16 : decode cX1_write 16 = .ok (.ishr, 1) := by decide +kernel
theorem dX1_write_17 : decode cX1_write 17 = .ok (.iaload, 1) := by decide +kernel
theorem dX1_write_18 : decode cX1_write 18 = .ok (.invokevirtual 76, 3) := by decide +kernel
theorem dX1_write_21 : decode cX1_write 21 = .ok (.goto 4, 3) := by decide +kernel
theorem dX1_write_24 : decode cX1_write 24 = .ok (.iconst (-1), 1) := by decide +kernel
theorem dX1_write_25 : decode cX1_write 25 = .ok (.istore 4, 2) := by decide +kernel
theorem dX1_write_27 : decode cX1_write 27 = .ok (.iload 4, 2) := by decide +kernel
theorem dX1_write_29 : decode cX1_write 29 = .ok (.iconst (-1), 1) := by decide +kernel
theorem dX1_write_30 : decode cX1_write 30 = .ok (.if_icmp .eq 22, 3) := by decide +kernel
theorem dX1_write_33 : decode cX1_write 33 = .ok (.aload_n 0, 1) := by decide +kernel
theorem dX1_write_34 : decode cX1_write 34 = .ok (.getfield 9, 3) := by decide +kernel
theorem dX1_write_37 : decode cX1_write 37 = .ok (.iload 4, 2) := by decide +kernel
theorem dX1_write_39 : decode cX1_write 39 = .ok (.bipush 64, 2) := by decide +kernel
theorem dX1_write_41 : decode cX1_write 41 = .ok (.imul, 1) := by decide +kernel
theorem dX1_write_42 : decode cX1_write 42 = .ok (.iload_n 2, 1) := by decide +kernel
theorem dX1_write_43 : decode cX1_write 43 = .ok (.bipush 63, 2) := by decide +kernel
theorem dX1_write_45 : decode cX1_write 45 = .ok (.iand, 1) := by decide +kernel
theorem dX1_write_46 : decode cX1_write 46 = .ok (.iadd, 1) := by decide +kernel
theorem dX1_write_47 : decode cX1_write 47 = .ok (.iaload, 1) := by decide +kernel
theorem dX1_write_48 : decode cX1_write 48 = .ok (.iload_n 3, 1) := by decide +kernel
theorem dX1_write_49 : decode cX1_write 49 = .ok (.if_icmp .ne 4, 3) := by decide +kernel
theorem dX1_write_52 : decode cX1_write 52 = .ok (.return_, 1) := by decide +kernel
theorem dX1_write_53 : decode cX1_write 53 = .ok (.aload_n 0, 1) := by decide +kernel
theorem dX1_write_54 : decode cX1_write 54 = .ok (.aload_n 1, 1) := by decide +kernel
theorem dX1_write_55 : decode cX1_write 55 = .ok (.iload_n 2, 1) := by decide +kernel
theorem dX1_write_56 : decode cX1_write 56 = .ok (.bipush 6, 2) := by decide +kernel
theorem dX1_write_58 : decode cX1_write 58 = .ok (.ishr, 1) := by decide +kernel
theorem dX1_write_59 : decode cX1_write 59 = .ok (.iload 4, 2) := by decide +kernel
theorem dX1_write_61 : decode cX1_write 61 = .ok (.invokevirtual 80, 3) := by decide +kernel
theorem dX1_write_64 : decode cX1_write 64 = .ok (.istore 4, 2) := by decide +kernel
theorem dX1_write_66 : decode cX1_write 66 = .ok (.iload 4, 2) := by decide +kernel
theorem dX1_write_68 : decode cX1_write 68 = .ok (.iconst (-1), 1) := by decide +kernel
theorem dX1_write_69 : decode cX1_write 69 = .ok (.if_icmp .eq 19, 3) := by decide +kernel
theorem dX1_write_72 : decode cX1_write 72 = .ok (.aload_n 0, 1) := by decide +kernel
theorem dX1_write_73 : decode cX1_write 73 = .ok (.getfield 9, 3) := by decide +kernel
theorem dX1_write_76 : decode cX1_write 76 = .ok (.iload 4, 2) := by decide +kernel
theorem dX1_write_78 : decode cX1_write 78 = .ok (.bipush 64, 2) := by decide +kernel
theorem dX1_write_80 : decode cX1_write 80 = .ok (.imul, 1) := by decide +kernel
theorem dX1_write_81 : decode cX1_write 81 = .ok (.iload_n 2, 1) := by decide +kernel
theorem dX1_write_82 : decode cX1_write 82 = .ok (.bipush 63, 2) := by decide +kernel
theorem dX1_write_84 : decode cX1_write 84 = .ok (.iand, 1) := by decide +kernel
theorem dX1_write_85 : decode cX1_write 85 = .ok (.iadd, 1) := by decide +kernel
theorem dX1_write_86 : decode cX1_write 86 = .ok (.iload_n 3, 1) := by decide +kernel
theorem dX1_write_87 : decode cX1_write 87 = .ok (.iastore, 1) := by decide +kernel
theorem dX1_write_88 : decode cX1_write 88 = .ok (.return_, 1) := by decide +kernel
theorem dX1_saveFrame_0 : decode cX1_saveFrame 0 = .ok (.aload_n 0, 1) := by decide +kernel
theorem dX1_saveFrame_1 : decode cX1_saveFrame 1 = .ok (.aload_n 1, 1) := by decide +kernel
theorem dX1_saveFrame_2 : decode cX1_saveFrame 2 = .ok (.getfield 62, 3) := by decide +kernel
theorem dX1_saveFrame_5 : decode cX1_saveFrame 5 = .ok (.iload_n 2, 1) := by decide +kernel
theorem dX1_saveFrame_6 : decode cX1_saveFrame 6 = .ok (.bipush 63, 2) := by decide +kernel
theorem dX1_saveFrame_8 : decode cX1_saveFrame 8 = .ok (.iand, 1) := by decide +kernel
theorem dX1_saveFrame_9 : decode cX1_saveFrame 9 = .ok (.iaload, 1) := by decide +kernel
theorem dX1_saveFrame_10 : decode cX1_saveFrame 10 = .ok (.invokevirtual 76, 3) := by decide +kernel
theorem dX1_saveFrame_13 : decode cX1_saveFrame 13 = .ok (.istore 4, 2) := by decide +kernel
theorem dX1_saveFrame_15 : decode cX1_saveFrame 15 = .ok (.iload 4, 2) := by decide +kernel
theorem dX1_saveFrame_17 : decode cX1_saveFrame 17 = .ok (.iconst (-1), 1) := by decide +kernel
theorem dX1_saveFrame_18 : decode cX1_saveFrame 18 = .ok (.if_icmp .eq 28, 3) := by decide +kernel
theorem dX1_saveFrame_21 : decode cX1_saveFrame 21 = .ok (.aload_n 0, 1) := by decide +kernel
theorem dX1_saveFrame_22 : decode cX1_saveFrame 22 = .ok (.getfield 9, 3) := by decide +kernel
theorem dX1_saveFrame_25 : decode cX1_saveFrame 25 = .ok (.iload 4, 2) := by decide +kernel
theorem dX1_saveFrame_27 : decode cX1_saveFrame 27 = .ok (.bipush 64, 2) := by decide +kernel
theorem dX1_saveFrame_29 : decode cX1_saveFrame 29 = .ok (.imul, 1) := by decide +kernel
theorem dX1_saveFrame_30 : decode cX1_saveFrame 30 = .ok (.aload_n 1, 1) := by decide +kernel
theorem dX1_saveFrame_31 : decode cX1_saveFrame 31 = .ok (.getfield 84, 3) := by decide +kernel
theorem dX1_saveFrame_34 : decode cX1_saveFrame 34 = .ok (.iload_n 3, 1) := by decide +kernel
theorem dX1_saveFrame_35 : decode cX1_saveFrame 35 = .ok (.bipush 15, 2) := by decide +kernel
theorem dX1_saveFrame_37 : decode cX1_saveFrame 37 = .ok (.iand, 1) := by decide +kernel
theorem dX1_saveFrame_38 : decode cX1_saveFrame 38 = .ok (.bipush 64, 2) := by decide +kernel
theorem dX1_saveFrame_40 : decode cX1_saveFrame 40 = .ok (.imul, 1) := by decide +kernel
theorem dX1_saveFrame_41 : decode cX1_saveFrame 41 = .ok (.bipush 64, 2) := by decide +kernel
theorem dX1_saveFrame_43 : decode cX1_saveFrame 43 = .ok (.invokestatic 87, 3) := by decide +kernel
theorem dX1_saveFrame_46 : decode cX1_saveFrame 46 = .ok (.return_, 1) := by decide +kernel
theorem dX1_loadFrame_0 : decode cX1_loadFrame 0 = .ok (.aload_n 0, 1) := by decide +kernel
theorem dX1_loadFrame_1 : decode cX1_loadFrame 1 = .ok (.aload_n 1, 1) := by decide +kernel
theorem dX1_loadFrame_2 : decode cX1_loadFrame 2 = .ok (.getfield 62, 3) := by decide +kernel
theorem dX1_loadFrame_5 : decode cX1_loadFrame 5 = .ok (.iload_n 2, 1) := by decide +kernel
theorem dX1_loadFrame_6 : decode cX1_loadFrame 6 = .ok (.bipush 63, 2) := by decide +kernel
theorem dX1_loadFrame_8 : decode cX1_loadFrame 8 = .ok (.iand, 1) := by decide +kernel
theorem dX1_loadFrame_9 : decode cX1_loadFrame 9 = .ok (.iaload, 1) := by decide +kernel
theorem dX1_loadFrame_10 : decode cX1_loadFrame 10 = .ok (.invokevirtual 76, 3) := by decide +kernel
theorem dX1_loadFrame_13 : decode cX1_loadFrame 13 = .ok (.istore 4, 2) := by decide +kernel
theorem dX1_loadFrame_15 : decode cX1_loadFrame 15 = .ok (.iload 4, 2) := by decide +kernel
theorem dX1_loadFrame_17 : decode cX1_loadFrame 17 = .ok (.iconst (-1), 1) := by decide +kernel
theorem dX1_loadFrame_18 : decode cX1_loadFrame 18 = .ok (.if_icmp .eq 16, 3) := by decide +kernel
theorem dX1_loadFrame_21 : decode cX1_loadFrame 21 = .ok (.aload_n 0, 1) := by decide +kernel
theorem dX1_loadFrame_22 : decode cX1_loadFrame 22 = .ok (.aload_n 1, 1) := by decide +kernel
theorem dX1_loadFrame_23 : decode cX1_loadFrame 23 = .ok (.iload_n 2, 1) := by decide +kernel
theorem dX1_loadFrame_24 : decode cX1_loadFrame 24 = .ok (.bipush 63, 2) := by decide +kernel
theorem dX1_loadFrame_26 : decode cX1_loadFrame 26 = .ok (.iand, 1) := by decide +kernel
theorem dX1_loadFrame_27 : decode cX1_loadFrame 27 = .ok (.iload 4, 2) := by decide +kernel
theorem dX1_loadFrame_29 : decode cX1_loadFrame 29 = .ok (.invokevirtual 80, 3) := by decide +kernel
theorem dX1_loadFrame_32 : decode cX1_loadFrame 32 = .ok (.istore 4, 2) := by decide +kernel
theorem dX1_loadFrame_34 : decode cX1_loadFrame 34 = .ok (.iload 4, 2) := by decide +kernel
theorem dX1_loadFrame_36 : decode cX1_loadFrame 36 = .ok (.iconst (-1), 1) := by decide +kernel
theorem dX1_loadFrame_37 : decode cX1_loadFrame 37 = .ok (.if_icmp .eq 28, 3) := by decide +kernel
theorem dX1_loadFrame_40 : decode cX1_loadFrame 40 = .ok (.aload_n 1, 1) := by decide +kernel
theorem dX1_loadFrame_41 : decode cX1_loadFrame 41 = .ok (.getfield 84, 3) := by decide +kernel
theorem dX1_loadFrame_44 : decode cX1_loadFrame 44 = .ok (.iload_n 3, 1) := by decide +kernel
theorem dX1_loadFrame_45 : decode cX1_loadFrame 45 = .ok (.bipush 15, 2) := by decide +kernel
theorem dX1_loadFrame_47 : decode cX1_loadFrame 47 = .ok (.iand, 1) := by decide +kernel
theorem dX1_loadFrame_48 : decode cX1_loadFrame 48 = .ok (.bipush 64, 2) := by decide +kernel
theorem dX1_loadFrame_50 : decode cX1_loadFrame 50 = .ok (.imul, 1) := by decide +kernel
theorem dX1_loadFrame_51 : decode cX1_loadFrame 51 = .ok (.aload_n 0, 1) := by decide +kernel
theorem dX1_loadFrame_52 : decode cX1_loadFrame 52 = .ok (.getfield 9, 3) := by decide +kernel
theorem dX1_loadFrame_55 : decode cX1_loadFrame 55 = .ok (.iload 4, 2) := by decide +kernel
theorem dX1_loadFrame_57 : decode cX1_loadFrame 57 = .ok (.bipush 64, 2) := by decide +kernel
theorem dX1_loadFrame_59 : decode cX1_loadFrame 59 = .ok (.imul, 1) := by decide +kernel
theorem dX1_loadFrame_60 : decode cX1_loadFrame 60 = .ok (.bipush 64, 2) := by decide +kernel
theorem dX1_loadFrame_62 : decode cX1_loadFrame 62 = .ok (.invokestatic 87, 3) := by decide +kernel
theorem dX1_loadFrame_65 : decode cX1_loadFrame 65 = .ok (.return_, 1) := by decide +kernel
theorem dX1_countFaults_0 : decode cX1_countFaults 0 = .ok (.aload_n 0, 1) := by decide +kernel
theorem dX1_countFaults_1 : decode cX1_countFaults 1 = .ok (.aload_n 1, 1) := by decide +kernel
theorem dX1_countFaults_2 : decode cX1_countFaults 2 = .ok (.invokevirtual 93, 3) := by decide +kernel
theorem dX1_countFaults_5 : decode cX1_countFaults 5 = .ok (.aload_n 0, 1) := by decide +kernel
theorem dX1_countFaults_6 : decode cX1_countFaults 6 = .ok (.invokevirtual 97, 3) := by decide +kernel
theorem dX1_countFaults_9 : decode cX1_countFaults 9 = .ok (.iadd, 1) := by decide +kernel
theorem dX1_countFaults_10 : decode cX1_countFaults 10 = .ok (.aload_n 0, 1) := by decide +kernel
theorem dX1_countFaults_11 : decode cX1_countFaults 11 = .ok (.invokevirtual 101, 3) := by decide +kernel
theorem dX1_countFaults_14 : decode cX1_countFaults 14 = .ok (.iadd, 1) := by decide +kernel
theorem dX1_countFaults_15 : decode cX1_countFaults 15 = .ok (.aload_n 0, 1) := by decide +kernel
theorem dX1_countFaults_16 : decode cX1_countFaults 16 = .ok (.invokevirtual 104, 3) := by decide +kernel
theorem dX1_countFaults_19 : decode cX1_countFaults 19 = .ok (.iadd, 1) := by decide +kernel
theorem dX1_countFaults_20 : decode cX1_countFaults 20 = .ok (.ireturn, 1) := by decide +kernel
theorem dX1_isSheet_0 : decode cX1_isSheet 0 = .ok (.iload_n 1, 1) := by decide +kernel
theorem dX1_isSheet_1 : decode cX1_isSheet 1 = .ok (.ifCond .lt 14, 3) := by decide +kernel
theorem dX1_isSheet_4 : decode cX1_isSheet 4 = .ok (.iload_n 1, 1) := by decide +kernel
theorem dX1_isSheet_5 : decode cX1_isSheet 5 = .ok (.sipush 513, 3) := by decide +kernel
theorem dX1_isSheet_8 : decode cX1_isSheet 8 = .ok (.if_icmp .ge 7, 3) := by decide +kernel
theorem dX1_isSheet_11 : decode cX1_isSheet 11 = .ok (.iconst 1, 1) := by decide +kernel
theorem dX1_isSheet_12 : decode cX1_isSheet 12 = .ok (.goto 4, 3) := by decide +kernel
theorem dX1_isSheet_15 : decode cX1_isSheet 15 = .ok (.iconst 0, 1) := by decide +kernel
theorem dX1_isSheet_16 : decode cX1_isSheet 16 = .ok (.ireturn, 1) := by decide +kernel
theorem dX1_bring_0 : decode cX1_bring 0 = .ok (.aload_n 0, 1) := by decide +kernel
theorem dX1_bring_1 : decode cX1_bring 1 = .ok (.iload_n 1, 1) := by decide +kernel
theorem dX1_bring_2 : decode cX1_bring 2 = .ok (.invokevirtual 65, 3) := by decide +kernel
theorem dX1_bring_5 : decode cX1_bring 5 = .ok (.ifCond .ne 5, 3) := by decide +kernel
theorem dX1_bring_8 : decode cX1_bring 8 = .ok (.iconst (-1), 1) := by decide +kernel
theorem dX1_bring_9 : decode cX1_bring 9 = .ok (.ireturn, 1) := by decide +kernel
theorem dX1_bring_10 : decode cX1_bring 10 = .ok (.aload_n 0, 1) := by decide +kernel
theorem dX1_bring_11 : decode cX1_bring 11 = .ok (.getfield 28, 3) := by decide +kernel
theorem dX1_bring_14 : decode cX1_bring 14 = .ok (.iload_n 1, 1) := by decide +kernel
theorem dX1_bring_15 : decode cX1_bring 15 = .ok (.iaload, 1) := by decide +kernel
theorem dX1_bring_16 : decode cX1_bring 16 = .ok (.istore_n 2, 1) := by decide +kernel
theorem dX1_bring_17 : decode cX1_bring 17 = .ok (.iload_n 2, 1) := by decide +kernel
theorem dX1_bring_18 : decode cX1_bring 18 = .ok (.iconst (-1), 1) := by decide +kernel
theorem dX1_bring_19 : decode cX1_bring 19 = .ok (.if_icmp .ne 51, 3) := by decide +kernel
theorem dX1_bring_22 : decode cX1_bring 22 = .ok (.aload_n 0, 1) := by decide +kernel
theorem dX1_bring_23 : decode cX1_bring 23 = .ok (.iconst (-1), 1) := by decide +kernel
theorem dX1_bring_24 : decode cX1_bring 24 = .ok (.invokevirtual 107, 3) := by decide +kernel
theorem dX1_bring_27 : decode cX1_bring 27 = .ok (.istore_n 2, 1) := by decide +kernel
theorem dX1_bring_28 : decode cX1_bring 28 = .ok (.iload_n 2, 1) := by decide +kernel
theorem dX1_bring_29 : decode cX1_bring 29 = .ok (.iconst (-1), 1) := by decide +kernel
theorem dX1_bring_30 : decode cX1_bring 30 = .ok (.if_icmp .ne 5, 3) := by decide +kernel
theorem dX1_bring_33 : decode cX1_bring 33 = .ok (.iconst (-1), 1) := by decide +kernel
theorem dX1_bring_34 : decode cX1_bring 34 = .ok (.ireturn, 1) := by decide +kernel
theorem dX1_bring_35 : decode cX1_bring 35 = .ok (.aload_n 0, 1) := by decide +kernel
theorem dX1_bring_36 : decode cX1_bring 36 = .ok (.getfield 15, 3) := by decide +kernel
theorem dX1_bring_39 : decode cX1_bring 39 = .ok (.iload_n 1, 1) := by decide +kernel
theorem dX1_bring_40 : decode cX1_bring 40 = .ok (.bipush 64, 2) := by decide +kernel
theorem dX1_bring_42 : decode cX1_bring 42 = .ok (.imul, 1) := by decide +kernel
theorem dX1_bring_43 : decode cX1_bring 43 = .ok (.aload_n 0, 1) := by decide +kernel
theorem dX1_bring_44 : decode cX1_bring 44 = .ok (.getfield 9, 3) := by decide +kernel
theorem dX1_bring_47 : decode cX1_bring 47 = .ok (.iload_n 2, 1) := by decide +kernel
theorem dX1_bring_48 : decode cX1_bring 48 = .ok (.bipush 64, 2) := by decide +kernel
theorem dX1_bring_50 : decode cX1_bring 50 = .ok (.imul, 1) := by decide +kernel
theorem dX1_bring_51 : decode cX1_bring 51 = .ok (.bipush 64, 2) := by decide +kernel
theorem dX1_bring_53 : decode cX1_bring 53 = .ok (.invokestatic 87, 3) := by decide +kernel
theorem dX1_bring_56 : decode cX1_bring 56 = .ok (.aload_n 0, 1) := by decide +kernel
theorem dX1_bring_57 : decode cX1_bring 57 = .ok (.getfield 18, 3) := by decide +kernel
theorem dX1_bring_60 : decode cX1_bring 60 = .ok (.iload_n 2, 1) := by decide +kernel
theorem dX1_bring_61 : decode cX1_bring 61 = .ok (.iload_n 1, 1) := by decide +kernel
theorem dX1_bring_62 : decode cX1_bring 62 = .ok (.iastore, 1) := by decide +kernel
theorem dX1_bring_63 : decode cX1_bring 63 = .ok (.aload_n 0, 1) := by decide +kernel
theorem dX1_bring_64 : decode cX1_bring 64 = .ok (.getfield 28, 3) := by decide +kernel
theorem dX1_bring_67 : decode cX1_bring 67 = .ok (.iload_n 1, 1) := by decide +kernel
theorem dX1_bring_68 : decode cX1_bring 68 = .ok (.iload_n 2, 1) := by decide +kernel
theorem dX1_bring_69 : decode cX1_bring 69 = .ok (.iastore, 1) := by decide +kernel
theorem dX1_bring_70 : decode cX1_bring 70 = .ok (.aload_n 0, 1) := by decide +kernel
theorem dX1_bring_71 : decode cX1_bring 71 = .ok (.getfield 21, 3) := by decide +kernel
theorem dX1_bring_74 : decode cX1_bring 74 = .ok (.iload_n 2, 1) := by decide +kernel
theorem dX1_bring_75 : decode cX1_bring 75 = .ok (.iconst 1, 1) := by decide +kernel
theorem dX1_bring_76 : decode cX1_bring 76 = .ok (.bastore, 1) := by decide +kernel
theorem dX1_bring_77 : decode cX1_bring 77 = .ok (.iload_n 2, 1) := by decide +kernel
theorem dX1_bring_78 : decode cX1_bring 78 = .ok (.ireturn, 1) := by decide +kernel
theorem dX1_makeOwn_0 : decode cX1_makeOwn 0 = .ok (.aload_n 1, 1) := by decide +kernel
theorem dX1_makeOwn_1 : decode cX1_makeOwn 1 = .ok (.getfield 62, 3) := by decide +kernel
theorem dX1_makeOwn_4 : decode cX1_makeOwn 4 = .ok (.iload_n 2, 1) := by decide +kernel
theorem dX1_makeOwn_5 : decode cX1_makeOwn 5 = .ok (.bipush 63, 2) := by decide +kernel
theorem dX1_makeOwn_7 : decode cX1_makeOwn 7 = .ok (.iand, 1) := by decide +kernel
theorem dX1_makeOwn_8 : decode cX1_makeOwn 8 = .ok (.iaload, 1) := by decide +kernel
theorem dX1_makeOwn_9 : decode cX1_makeOwn 9 = .ok (.istore 4, 2) := by decide +kernel
theorem dX1_makeOwn_11 : decode cX1_makeOwn 11 = .ok (.aload_n 0, 1) := by decide +kernel
theorem dX1_makeOwn_12 : decode cX1_makeOwn 12 = .ok (.iload 4, 2) := by decide +kernel
theorem dX1_makeOwn_14 : decode cX1_makeOwn 14 = .ok (.invokevirtual 65, 3) := by decide +kernel
theorem dX1_makeOwn_17 : decode cX1_makeOwn 17 = .ok (.ifCond .ne 5, 3) := by decide +kernel
theorem dX1_makeOwn_20 : decode cX1_makeOwn 20 = .ok (.iconst (-1), 1) := by decide +kernel
theorem dX1_makeOwn_21 : decode cX1_makeOwn 21 = .ok (.ireturn, 1) := by decide +kernel
theorem dX1_makeOwn_22 : decode cX1_makeOwn 22 = .ok (.aload_n 0, 1) := by decide +kernel
theorem dX1_makeOwn_23 : decode cX1_makeOwn 23 = .ok (.getfield 25, 3) := by decide +kernel
theorem dX1_makeOwn_26 : decode cX1_makeOwn 26 = .ok (.iload 4, 2) := by decide +kernel
theorem dX1_makeOwn_28 : decode cX1_makeOwn 28 = .ok (.iaload, 1) := by decide +kernel
theorem dX1_makeOwn_29 : decode cX1_makeOwn 29 = .ok (.iconst 1, 1) := by decide +kernel
theorem dX1_makeOwn_30 : decode cX1_makeOwn 30 = .ok (.if_icmp .ne 13, 3) := by decide +kernel
theorem dX1_makeOwn_33 : decode cX1_makeOwn 33 = .ok (.aload_n 0, 1) := by decide +kernel
theorem dX1_makeOwn_34 : decode cX1_makeOwn 34 = .ok (.getfield 31, 3) := by decide +kernel
theorem dX1_makeOwn_37 : decode cX1_makeOwn 37 = .ok (.iload 4, 2) := by decide +kernel
theorem dX1_makeOwn_39 : decode cX1_makeOwn 39 = .ok (.iconst 1, 1) := by decide +kernel
theorem dX1_makeOwn_40 : decode cX1_makeOwn 40 = .ok (.bastore, 1) := by decide +kernel
theorem dX1_makeOwn_41 : decode cX1_makeOwn 41 = .ok (.iload_n 3, 1) := by decide +kernel
theorem dX1_makeOwn_42 : decode cX1_makeOwn 42 = .ok (.ireturn, 1) := by decide +kernel
theorem dX1_makeOwn_43 : decode cX1_makeOwn 43 = .ok (.aload_n 0, 1) := by decide +kernel
theorem dX1_makeOwn_44 : decode cX1_makeOwn 44 = .ok (.iload_n 3, 1) := by decide +kernel
theorem dX1_makeOwn_45 : decode cX1_makeOwn 45 = .ok (.invokevirtual 107, 3) := by decide +kernel
theorem dX1_makeOwn_48 : decode cX1_makeOwn 48 = .ok (.istore 5, 2) := by decide +kernel
theorem dX1_makeOwn_50 : decode cX1_makeOwn 50 = .ok (.iload 5, 2) := by decide +kernel
theorem dX1_makeOwn_52 : decode cX1_makeOwn 52 = .ok (.iconst (-1), 1) := by decide +kernel
theorem dX1_makeOwn_53 : decode cX1_makeOwn 53 = .ok (.if_icmp .ne 7, 3) := by decide +kernel
theorem dX1_makeOwn_56 : decode cX1_makeOwn 56 = .ok (.iconst (-1), 1) := by decide +kernel
theorem dX1_makeOwn_57 : decode cX1_makeOwn 57 = .ok (.goto 7, 3) := by decide +kernel
theorem dX1_makeOwn_60 : decode cX1_makeOwn 60 = .ok (.aload_n 0, 1) := by decide +kernel
theorem dX1_makeOwn_61 : decode cX1_makeOwn 61 = .ok (.invokevirtual 110, 3) := by decide +kernel
theorem dX1_makeOwn_64 : decode cX1_makeOwn 64 = .ok (.istore 6, 2) := by decide +kernel
theorem dX1_makeOwn_66 : decode cX1_makeOwn 66 = .ok (.iload 6, 2) := by decide +kernel
theorem dX1_makeOwn_68 : decode cX1_makeOwn 68 = .ok (.iconst (-1), 1) := by decide +kernel
theorem dX1_makeOwn_69 : decode cX1_makeOwn 69 = .ok (.if_icmp .ne 5, 3) := by decide +kernel
theorem dX1_makeOwn_72 : decode cX1_makeOwn 72 = .ok (.iconst (-1), 1) := by decide +kernel
theorem dX1_makeOwn_73 : decode cX1_makeOwn 73 = .ok (.ireturn, 1) := by decide +kernel
theorem dX1_makeOwn_74 : decode cX1_makeOwn 74 = .ok (.aload_n 0, 1) := by decide +kernel
theorem dX1_makeOwn_75 : decode cX1_makeOwn 75 = .ok (.getfield 9, 3) := by decide +kernel
theorem dX1_makeOwn_78 : decode cX1_makeOwn 78 = .ok (.iload_n 3, 1) := by decide +kernel
theorem dX1_makeOwn_79 : decode cX1_makeOwn 79 = .ok (.bipush 64, 2) := by decide +kernel
theorem dX1_makeOwn_81 : decode cX1_makeOwn 81 = .ok (.imul, 1) := by decide +kernel
theorem dX1_makeOwn_82 : decode cX1_makeOwn 82 = .ok (.aload_n 0, 1) := by decide +kernel
theorem dX1_makeOwn_83 : decode cX1_makeOwn 83 = .ok (.getfield 9, 3) := by decide +kernel
theorem dX1_makeOwn_86 : decode cX1_makeOwn 86 = .ok (.iload 5, 2) := by decide +kernel
theorem dX1_makeOwn_88 : decode cX1_makeOwn 88 = .ok (.bipush 64, 2) := by decide +kernel
theorem dX1_makeOwn_90 : decode cX1_makeOwn 90 = .ok (.imul, 1) := by decide +kernel
theorem dX1_makeOwn_91 : decode cX1_makeOwn 91 = .ok (.bipush 64, 2) := by decide +kernel
theorem dX1_makeOwn_93 : decode cX1_makeOwn 93 = .ok (.invokestatic 87, 3) := by decide +kernel
theorem dX1_makeOwn_96 : decode cX1_makeOwn 96 = .ok (.aload_n 0, 1) := by decide +kernel
theorem dX1_makeOwn_97 : decode cX1_makeOwn 97 = .ok (.getfield 25, 3) := by decide +kernel
theorem dX1_makeOwn_100 : decode cX1_makeOwn 100 = .ok (.iload 4, 2) := by decide +kernel
theorem dX1_makeOwn_102 : decode cX1_makeOwn 102 = .ok (.dup2, 1) := by decide +kernel
theorem dX1_makeOwn_103 : decode cX1_makeOwn 103 = .ok (.iaload, 1) := by decide +kernel
theorem dX1_makeOwn_104 : decode cX1_makeOwn 104 = .ok (.iconst 1, 1) := by decide +kernel
theorem dX1_makeOwn_105 : decode cX1_makeOwn 105 = .ok (.isub, 1) := by decide +kernel
theorem dX1_makeOwn_106 : decode cX1_makeOwn 106 = .ok (.iastore, 1) := by decide +kernel
theorem dX1_makeOwn_107 : decode cX1_makeOwn 107 = .ok (.aload_n 0, 1) := by decide +kernel
theorem dX1_makeOwn_108 : decode cX1_makeOwn 108 = .ok (.getfield 25, 3) := by decide +kernel
theorem dX1_makeOwn_111 : decode cX1_makeOwn 111 = .ok (.iload 6, 2) := by decide +kernel
theorem dX1_makeOwn_113 : decode cX1_makeOwn 113 = .ok (.iconst 1, 1) := by decide +kernel
theorem dX1_makeOwn_114 : decode cX1_makeOwn 114 = .ok (.iastore, 1) := by decide +kernel
theorem dX1_makeOwn_115 : decode cX1_makeOwn 115 = .ok (.aload_n 0, 1) := by decide +kernel
theorem dX1_makeOwn_116 : decode cX1_makeOwn 116 = .ok (.getfield 28, 3) := by decide +kernel
theorem dX1_makeOwn_119 : decode cX1_makeOwn 119 = .ok (.iload 6, 2) := by decide +kernel
theorem dX1_makeOwn_121 : decode cX1_makeOwn 121 = .ok (.iload 5, 2) := by decide +kernel
theorem dX1_makeOwn_123 : decode cX1_makeOwn 123 = .ok (.iastore, 1) := by decide +kernel
theorem dX1_makeOwn_124 : decode cX1_makeOwn 124 = .ok (.aload_n 0, 1) := by decide +kernel
theorem dX1_makeOwn_125 : decode cX1_makeOwn 125 = .ok (.getfield 31, 3) := by decide +kernel
theorem dX1_makeOwn_128 : decode cX1_makeOwn 128 = .ok (.iload 6, 2) := by decide +kernel
theorem dX1_makeOwn_130 : decode cX1_makeOwn 130 = .ok (.iconst 1, 1) := by decide +kernel
theorem dX1_makeOwn_131 : decode cX1_makeOwn 131 = .ok (.bastore, 1) := by decide +kernel
theorem dX1_makeOwn_132 : decode cX1_makeOwn 132 = .ok (.aload_n 0, 1) := by decide +kernel
theorem dX1_makeOwn_133 : decode cX1_makeOwn 133 = .ok (.getfield 18, 3) := by decide +kernel
theorem dX1_makeOwn_136 : decode cX1_makeOwn 136 = .ok (.iload 5, 2) := by decide +kernel
theorem dX1_makeOwn_138 : decode cX1_makeOwn 138 = .ok (.iload 6, 2) := by decide +kernel
theorem dX1_makeOwn_140 : decode cX1_makeOwn 140 = .ok (.iastore, 1) := by decide +kernel
theorem dX1_makeOwn_141 : decode cX1_makeOwn 141 = .ok (.aload_n 0, 1) := by decide +kernel
theorem dX1_makeOwn_142 : decode cX1_makeOwn 142 = .ok (.getfield 21, 3) := by decide +kernel
theorem dX1_makeOwn_145 : decode cX1_makeOwn 145 = .ok (.iload 5, 2) := by decide +kernel
theorem dX1_makeOwn_147 : decode cX1_makeOwn 147 = .ok (.iconst 1, 1) := by decide +kernel
theorem dX1_makeOwn_148 : decode cX1_makeOwn 148 = .ok (.bastore, 1) := by decide +kernel
theorem dX1_makeOwn_149 : decode cX1_makeOwn 149 = .ok (.aload_n 1, 1) := by decide +kernel
theorem dX1_makeOwn_150 : decode cX1_makeOwn 150 = .ok (.getfield 62, 3) := by decide +kernel
theorem dX1_makeOwn_153 : decode cX1_makeOwn 153 = .ok (.iload_n 2, 1) := by decide +kernel
theorem dX1_makeOwn_154 : decode cX1_makeOwn 154 = .ok (.bipush 63, 2) := by decide +kernel
theorem dX1_makeOwn_156 : decode cX1_makeOwn 156 = .ok (.iand, 1) := by decide +kernel
theorem dX1_makeOwn_157 : decode cX1_makeOwn 157 = .ok (.iload 6, 2) := by decide +kernel
theorem dX1_makeOwn_159 : decode cX1_makeOwn 159 = .ok (.iastore, 1) := by decide +kernel
theorem dX1_makeOwn_160 : decode cX1_makeOwn 160 = .ok (.iload 5, 2) := by decide +kernel
theorem dX1_makeOwn_162 : decode cX1_makeOwn 162 = .ok (.ireturn, 1) := by decide +kernel
theorem dX1_takeFrame_0 : decode cX1_takeFrame 0 = .ok (.aload_n 0, 1) := by decide +kernel
theorem dX1_takeFrame_1 : decode cX1_takeFrame 1 = .ok (.getfield 44, 3) := by decide +kernel
theorem dX1_takeFrame_4 : decode cX1_takeFrame 4 = .ok (.aload_n 0, 1) := by decide +kernel
theorem dX1_takeFrame_5 : decode cX1_takeFrame 5 = .ok (.getfield 40, 3) := by decide +kernel
theorem dX1_takeFrame_8 : decode cX1_takeFrame 8 = .ok (.if_icmp .ge 53, 3) := by decide +kernel
theorem dX1_takeFrame_11 : decode cX1_takeFrame 11 = .ok (.aload_n 0, 1) := by decide +kernel
theorem dX1_takeFrame_12 : decode cX1_takeFrame 12 = .ok (.dup, 1) := by decide +kernel
theorem dX1_takeFrame_13 : decode cX1_takeFrame 13 = .ok (.getfield 44, 3) := by decide +kernel
theorem dX1_takeFrame_16 : decode cX1_takeFrame 16 = .ok (.iconst 1, 1) := by decide +kernel
theorem dX1_takeFrame_17 : decode cX1_takeFrame 17 = .ok (.iadd, 1) := by decide +kernel
theorem dX1_takeFrame_18 : decode cX1_takeFrame 18 = .ok (.putfield 44, 3) := by decide +kernel
theorem dX1_takeFrame_21 : decode cX1_takeFrame 21 = .ok (.aload_n 0, 1) := by decide +kernel
theorem dX1_takeFrame_22 : decode cX1_takeFrame 22 = .ok (.getfield 9, 3) := by decide +kernel
theorem dX1_takeFrame_25 : decode cX1_takeFrame 25 = .ok (.arraylength, 1) := by decide +kernel
theorem dX1_takeFrame_26 : decode cX1_takeFrame 26 = .ok (.aload_n 0, 1) := by decide +kernel
theorem dX1_takeFrame_27 : decode cX1_takeFrame 27 = .ok (.getfield 44, 3) := by decide +kernel
theorem dX1_takeFrame_30 : decode cX1_takeFrame 30 = .ok (.bipush 64, 2) := by decide +kernel
theorem dX1_takeFrame_32 : decode cX1_takeFrame 32 = .ok (.imul, 1) := by decide +kernel
theorem dX1_takeFrame_33 : decode cX1_takeFrame 33 = .ok (.if_icmp .ge 21, 3) := by decide +kernel
theorem dX1_takeFrame_36 : decode cX1_takeFrame 36 = .ok (.aload_n 0, 1) := by decide +kernel
theorem dX1_takeFrame_37 : decode cX1_takeFrame 37 = .ok (.aload_n 0, 1) := by decide +kernel
theorem dX1_takeFrame_38 : decode cX1_takeFrame 38 = .ok (.getfield 9, 3) := by decide +kernel
theorem dX1_takeFrame_41 : decode cX1_takeFrame 41 = .ok (.iconst 2, 1) := by decide +kernel
theorem dX1_takeFrame_42 : decode cX1_takeFrame 42 = .ok (.aload_n 0, 1) := by decide +kernel
theorem dX1_takeFrame_43 : decode cX1_takeFrame 43 = .ok (.getfield 9, 3) := by decide +kernel
theorem dX1_takeFrame_46 : decode cX1_takeFrame 46 = .ok (.arraylength, 1) := by decide +kernel
theorem dX1_takeFrame_47 : decode cX1_takeFrame 47 = .ok (.imul, 1) := by decide +kernel
theorem dX1_takeFrame_48 : decode cX1_takeFrame 48 = .ok (.invokestatic 113, 3) := by decide +kernel
theorem dX1_takeFrame_51 : decode cX1_takeFrame 51 = .ok (.putfield 9, 3) := by decide +kernel
theorem dX1_takeFrame_54 : decode cX1_takeFrame 54 = .ok (.aload_n 0, 1) := by decide +kernel
theorem dX1_takeFrame_55 : decode cX1_takeFrame 55 = .ok (.getfield 44, 3) := by decide +kernel
theorem dX1_takeFrame_58 : decode cX1_takeFrame 58 = .ok (.iconst 1, 1) := by decide +kernel
theorem dX1_takeFrame_59 : decode cX1_takeFrame 59 = .ok (.isub, 1) := by decide +kernel
theorem dX1_takeFrame_60 : decode cX1_takeFrame 60 = .ok (.ireturn, 1) := by decide +kernel
theorem dX1_takeFrame_61 : decode cX1_takeFrame 61 = .ok (.iconst 0, 1) := by decide +kernel
theorem dX1_takeFrame_62 : decode cX1_takeFrame 62 = .ok (.istore_n 2, 1) := by decide +kernel
theorem dX1_takeFrame_63 : decode cX1_takeFrame 63 = .ok (.iload_n 2, 1) := by decide +kernel
theorem dX1_takeFrame_64 : decode cX1_takeFrame 64 = .ok (.iconst 2, 1) := by decide +kernel
theorem dX1_takeFrame_65 : decode cX1_takeFrame 65 = .ok (.aload_n 0, 1) := by decide +kernel
theorem dX1_takeFrame_66 : decode cX1_takeFrame 66 = .ok (.getfield 40, 3) := by decide +kernel
theorem dX1_takeFrame_69 : decode cX1_takeFrame 69 = .ok (.imul, 1) := by decide +kernel
theorem dX1_takeFrame_70 : decode cX1_takeFrame 70 = .ok (.if_icmp .ge 135, 3) := by decide +kernel
theorem dX1_takeFrame_73 : decode cX1_takeFrame 73 = .ok (.aload_n 0, 1) := by decide +kernel
theorem dX1_takeFrame_74 : decode cX1_takeFrame 74 = .ok (.getfield 47, 3) := by decide +kernel
theorem dX1_takeFrame_77 : decode cX1_takeFrame 77 = .ok (.istore_n 3, 1) := by decide +kernel
theorem dX1_takeFrame_78 : decode cX1_takeFrame 78 = .ok (.aload_n 0, 1) := by decide +kernel
theorem dX1_takeFrame_79 : decode cX1_takeFrame 79 = .ok (.aload_n 0, 1) := by decide +kernel
theorem dX1_takeFrame_80 : decode cX1_takeFrame 80 = .ok (.getfield 47, 3) := by decide +kernel
theorem dX1_takeFrame_83 : decode cX1_takeFrame 83 = .ok (.iconst 1, 1) := by decide +kernel
theorem dX1_takeFrame_84 : decode cX1_takeFrame 84 = .ok (.iadd, 1) := by decide +kernel
theorem dX1_takeFrame_85 : decode cX1_takeFrame 85 = .ok (.aload_n 0, 1) := by decide +kernel
theorem dX1_takeFrame_86 : decode cX1_takeFrame 86 = .ok (.getfield 40, 3) := by decide +kernel
theorem dX1_takeFrame_89 : decode cX1_takeFrame 89 = .ok (.if_icmp .ge 12, 3) := by decide +kernel
theorem dX1_takeFrame_92 : decode cX1_takeFrame 92 = .ok (.aload_n 0, 1) := by decide +kernel
theorem dX1_takeFrame_93 : decode cX1_takeFrame 93 = .ok (.getfield 47, 3) := by decide +kernel
theorem dX1_takeFrame_96 : decode cX1_takeFrame 96 = .ok (.iconst 1, 1) := by decide +kernel
theorem dX1_takeFrame_97 : decode cX1_takeFrame 97 = .ok (.iadd, 1) := by decide +kernel
theorem dX1_takeFrame_98 : decode cX1_takeFrame 98 = .ok (.goto 4, 3) := by decide +kernel
theorem dX1_takeFrame_101 : decode cX1_takeFrame 101 = .ok (.iconst 0, 1) := by decide +kernel
theorem dX1_takeFrame_102 : decode cX1_takeFrame 102 = .ok (.putfield 47, 3) := by decide +kernel
theorem dX1_takeFrame_105 : decode cX1_takeFrame 105 = .ok (.aload_n 0, 1) := by decide +kernel
theorem dX1_takeFrame_106 : decode cX1_takeFrame 106 = .ok (.getfield 18, 3) := by decide +kernel
theorem dX1_takeFrame_109 : decode cX1_takeFrame 109 = .ok (.iload_n 3, 1) := by decide +kernel
theorem dX1_takeFrame_110 : decode cX1_takeFrame 110 = .ok (.iaload, 1) := by decide +kernel
theorem dX1_takeFrame_111 : decode cX1_takeFrame 111 = .ok (.istore 4, 2) := by decide +kernel
theorem dX1_takeFrame_113 : decode cX1_takeFrame 113 = .ok (.iload 4, 2) := by decide +kernel
theorem dX1_takeFrame_115 : decode cX1_takeFrame 115 = .ok (.iconst (-1), 1) := by decide +kernel
theorem dX1_takeFrame_116 : decode cX1_takeFrame 116 = .ok (.if_icmp .ne 5, 3) := by decide +kernel
theorem dX1_takeFrame_119 : decode cX1_takeFrame 119 = .ok (.iload_n 3, 1) := by decide +kernel
theorem dX1_takeFrame_120 : decode cX1_takeFrame 120 = .ok (.ireturn, 1) := by decide +kernel
theorem dX1_takeFrame_121 : decode cX1_takeFrame 121 = .ok (.iload_n 3, 1) := by decide +kernel
theorem dX1_takeFrame_122 : decode cX1_takeFrame 122 = .ok (.iload_n 1, 1) := by decide +kernel
theorem dX1_takeFrame_123 : decode cX1_takeFrame 123 = .ok (.if_icmp .eq 69, 3) := by decide +kernel
theorem dX1_takeFrame_126 : decode cX1_takeFrame 126 = .ok (.aload_n 0, 1) := by decide +kernel
theorem dX1_takeFrame_127 : decode cX1_takeFrame 127 = .ok (.getfield 21, 3) := by decide +kernel
theorem dX1_takeFrame_130 : decode cX1_takeFrame 130 = .ok (.iload_n 3, 1) := by decide +kernel
theorem dX1_takeFrame_131 : decode cX1_takeFrame 131 = .ok (.baload, 1) := by decide +kernel
theorem dX1_takeFrame_132 : decode cX1_takeFrame 132 = .ok (.ifCond .ne 60, 3) := by decide +kernel
theorem dX1_takeFrame_135 : decode cX1_takeFrame 135 = .ok (.aload_n 0, 1) := by decide +kernel
theorem dX1_takeFrame_136 : decode cX1_takeFrame 136 = .ok (.getfield 31, 3) := by decide +kernel
theorem dX1_takeFrame_139 : decode cX1_takeFrame 139 = .ok (.iload 4, 2) := by decide +kernel
theorem dX1_takeFrame_141 : decode cX1_takeFrame 141 = .ok (.baload, 1) := by decide +kernel
theorem dX1_takeFrame_142 : decode cX1_takeFrame 142 = .ok (.ifCond .eq 33, 3) := by decide +kernel
theorem dX1_takeFrame_145 : decode cX1_takeFrame 145 = .ok (.aload_n 0, 1) := by decide +kernel
theorem dX1_takeFrame_146 : decode cX1_takeFrame 146 = .ok (.getfield 9, 3) := by decide +kernel
theorem dX1_takeFrame_149 : decode cX1_takeFrame 149 = .ok (.iload_n 3, 1) := by decide +kernel
theorem dX1_takeFrame_150 : decode cX1_takeFrame 150 = .ok (.bipush 64, 2) := by decide +kernel
theorem dX1_takeFrame_152 : decode cX1_takeFrame 152 = .ok (.imul, 1) := by decide +kernel
theorem dX1_takeFrame_153 : decode cX1_takeFrame 153 = .ok (.aload_n 0, 1) := by decide +kernel
theorem dX1_takeFrame_154 : decode cX1_takeFrame 154 = .ok (.getfield 15, 3) := by decide +kernel
theorem dX1_takeFrame_157 : decode cX1_takeFrame 157 = .ok (.iload 4, 2) := by decide +kernel
theorem dX1_takeFrame_159 : decode cX1_takeFrame 159 = .ok (.bipush 64, 2) := by decide +kernel
theorem dX1_takeFrame_161 : decode cX1_takeFrame 161 = .ok (.imul, 1) := by decide +kernel
theorem dX1_takeFrame_162 : decode cX1_takeFrame 162 = .ok (.bipush 64, 2) := by decide +kernel
theorem dX1_takeFrame_164 : decode cX1_takeFrame 164 = .ok (.invokestatic 87, 3) := by decide +kernel
theorem dX1_takeFrame_167 : decode cX1_takeFrame 167 = .ok (.aload_n 0, 1) := by decide +kernel
theorem dX1_takeFrame_168 : decode cX1_takeFrame 168 = .ok (.getfield 31, 3) := by decide +kernel
theorem dX1_takeFrame_171 : decode cX1_takeFrame 171 = .ok (.iload 4, 2) := by decide +kernel
theorem dX1_takeFrame_173 : decode cX1_takeFrame 173 = .ok (.iconst 0, 1) := by decide +kernel
theorem dX1_takeFrame_174 : decode cX1_takeFrame 174 = .ok (.bastore, 1) := by decide +kernel
theorem dX1_takeFrame_175 : decode cX1_takeFrame 175 = .ok (.aload_n 0, 1) := by decide +kernel
theorem dX1_takeFrame_176 : decode cX1_takeFrame 176 = .ok (.getfield 28, 3) := by decide +kernel
theorem dX1_takeFrame_179 : decode cX1_takeFrame 179 = .ok (.iload 4, 2) := by decide +kernel
theorem dX1_takeFrame_181 : decode cX1_takeFrame 181 = .ok (.iconst (-1), 1) := by decide +kernel
theorem dX1_takeFrame_182 : decode cX1_takeFrame 182 = .ok (.iastore, 1) := by decide +kernel
theorem dX1_takeFrame_183 : decode cX1_takeFrame 183 = .ok (.aload_n 0, 1) := by decide +kernel
theorem dX1_takeFrame_184 : decode cX1_takeFrame 184 = .ok (.getfield 18, 3) := by decide +kernel
theorem dX1_takeFrame_187 : decode cX1_takeFrame 187 = .ok (.iload_n 3, 1) := by decide +kernel
theorem dX1_takeFrame_188 : decode cX1_takeFrame 188 = .ok (.iconst (-1), 1) := by decide +kernel
theorem dX1_takeFrame_189 : decode cX1_takeFrame 189 = .ok (.iastore, 1) := by decide +kernel
theorem dX1_takeFrame_190 : decode cX1_takeFrame 190 = .ok (.iload_n 3, 1) := by decide +kernel
theorem dX1_takeFrame_191 : decode cX1_takeFrame 191 = .ok (.ireturn, 1) := by decide +kernel
theorem dX1_takeFrame_192 : decode cX1_takeFrame 192 = .ok (.aload_n 0, 1) := by decide +kernel
theorem dX1_takeFrame_193 : decode cX1_takeFrame 193 = .ok (.getfield 21, 3) := by decide +kernel
theorem dX1_takeFrame_196 : decode cX1_takeFrame 196 = .ok (.iload_n 3, 1) := by decide +kernel
theorem dX1_takeFrame_197 : decode cX1_takeFrame 197 = .ok (.iconst 0, 1) := by decide +kernel
theorem dX1_takeFrame_198 : decode cX1_takeFrame 198 = .ok (.bastore, 1) := by decide +kernel
theorem dX1_takeFrame_199 : decode cX1_takeFrame 199 = .ok (.iinc 2 1, 3) := by decide +kernel
theorem dX1_takeFrame_202 : decode cX1_takeFrame 202 = .ok (.goto (-139), 3) := by decide +kernel
theorem dX1_takeFrame_205 : decode cX1_takeFrame 205 = .ok (.iconst (-1), 1) := by decide +kernel
theorem dX1_takeFrame_206 : decode cX1_takeFrame 206 = .ok (.ireturn, 1) := by decide +kernel
theorem dX1_takeSheet_0 : decode cX1_takeSheet 0 = .ok (.aload_n 0, 1) := by decide +kernel
theorem dX1_takeSheet_1 : decode cX1_takeSheet 1 = .ok (.getfield 56, 3) := by decide +kernel
theorem dX1_takeSheet_4 : decode cX1_takeSheet 4 = .ok (.ifCond .gt 5, 3) := by decide +kernel
theorem dX1_takeSheet_7 : decode cX1_takeSheet 7 = .ok (.iconst (-1), 1) := by decide +kernel
theorem dX1_takeSheet_8 : decode cX1_takeSheet 8 = .ok (.ireturn, 1) := by decide +kernel
theorem dX1_takeSheet_9 : decode cX1_takeSheet 9 = .ok (.aload_n 0, 1) := by decide +kernel
theorem dX1_takeSheet_10 : decode cX1_takeSheet 10 = .ok (.dup, 1) := by decide +kernel
theorem dX1_takeSheet_11 : decode cX1_takeSheet 11 = .ok (.getfield 56, 3) := by decide +kernel
theorem dX1_takeSheet_14 : decode cX1_takeSheet 14 = .ok (.iconst 1, 1) := by decide +kernel
theorem dX1_takeSheet_15 : decode cX1_takeSheet 15 = .ok (.isub, 1) := by decide +kernel
theorem dX1_takeSheet_16 : decode cX1_takeSheet 16 = .ok (.putfield 56, 3) := by decide +kernel
theorem dX1_takeSheet_19 : decode cX1_takeSheet 19 = .ok (.aload_n 0, 1) := by decide +kernel
theorem dX1_takeSheet_20 : decode cX1_takeSheet 20 = .ok (.getfield 34, 3) := by decide +kernel
theorem dX1_takeSheet_23 : decode cX1_takeSheet 23 = .ok (.aload_n 0, 1) := by decide +kernel
theorem dX1_takeSheet_24 : decode cX1_takeSheet 24 = .ok (.getfield 56, 3) := by decide +kernel
theorem dX1_takeSheet_27 : decode cX1_takeSheet 27 = .ok (.iaload, 1) := by decide +kernel
theorem dX1_takeSheet_28 : decode cX1_takeSheet 28 = .ok (.istore_n 1, 1) := by decide +kernel
theorem dX1_takeSheet_29 : decode cX1_takeSheet 29 = .ok (.aload_n 0, 1) := by decide +kernel
theorem dX1_takeSheet_30 : decode cX1_takeSheet 30 = .ok (.getfield 15, 3) := by decide +kernel
theorem dX1_takeSheet_33 : decode cX1_takeSheet 33 = .ok (.arraylength, 1) := by decide +kernel
theorem dX1_takeSheet_34 : decode cX1_takeSheet 34 = .ok (.iload_n 1, 1) := by decide +kernel
theorem dX1_takeSheet_35 : decode cX1_takeSheet 35 = .ok (.iconst 1, 1) := by decide +kernel
theorem dX1_takeSheet_36 : decode cX1_takeSheet 36 = .ok (.iadd, 1) := by decide +kernel
theorem dX1_takeSheet_37 : decode cX1_takeSheet 37 = .ok (.bipush 64, 2) := by decide +kernel
theorem dX1_takeSheet_39 : decode cX1_takeSheet 39 = .ok (.imul, 1) := by decide +kernel
theorem dX1_takeSheet_40 : decode cX1_takeSheet 40 = .ok (.if_icmp .ge 37, 3) := by decide +kernel
theorem dX1_takeSheet_43 : decode cX1_takeSheet 43 = .ok (.iconst 2, 1) := by decide +kernel
theorem dX1_takeSheet_44 : decode cX1_takeSheet 44 = .ok (.aload_n 0, 1) := by decide +kernel
theorem dX1_takeSheet_45 : decode cX1_takeSheet 45 = .ok (.getfield 15, 3) := by decide +kernel
theorem dX1_takeSheet_48 : decode cX1_takeSheet 48 = .ok (.arraylength, 1) := by decide +kernel
theorem dX1_takeSheet_49 : decode cX1_takeSheet 49 = .ok (.imul, 1) := by decide +kernel
theorem dX1_takeSheet_50 : decode cX1_takeSheet 50 = .ok (.ldc 117, 2) := by decide +kernel
theorem dX1_takeSheet_52 : decode cX1_takeSheet 52 = .ok (.invokestatic 118, 3) := by decide +kernel
theorem dX1_takeSheet_55 : decode cX1_takeSheet 55 = .ok (.istore_n 2, 1) := by decide +kernel
theorem dX1_takeSheet_56 : decode cX1_takeSheet 56 = .ok (.aload_n 0, 1) := by decide +kernel
theorem dX1_takeSheet_57 : decode cX1_takeSheet 57 = .ok (.aload_n 0, 1) := by decide +kernel
theorem dX1_takeSheet_58 : decode cX1_takeSheet 58 = .ok (.getfield 15, 3) := by decide +kernel
theorem dX1_takeSheet_61 : decode cX1_takeSheet 61 = .ok (.iload_n 1, 1) := by decide +kernel
theorem dX1_takeSheet_62 : decode cX1_takeSheet 62 = .ok (.iconst 1, 1) := by decide +kernel
theorem dX1_takeSheet_63 : decode cX1_takeSheet 63 = .ok (.iadd, 1) := by decide +kernel
theorem dX1_takeSheet_64 : decode cX1_takeSheet 64 = .ok (.bipush 64, 2) := by decide +kernel
theorem dX1_takeSheet_66 : decode cX1_takeSheet 66 = .ok (.imul, 1) := by decide +kernel
theorem dX1_takeSheet_67 : decode cX1_takeSheet 67 = .ok (.iload_n 2, 1) := by decide +kernel
theorem dX1_takeSheet_68 : decode cX1_takeSheet 68 = .ok (.invokestatic 124, 3) := by decide +kernel
theorem dX1_takeSheet_71 : decode cX1_takeSheet 71 = .ok (.invokestatic 113, 3) := by decide +kernel
theorem dX1_takeSheet_74 : decode cX1_takeSheet 74 = .ok (.putfield 15, 3) := by decide +kernel
theorem dX1_takeSheet_77 : decode cX1_takeSheet 77 = .ok (.iload_n 1, 1) := by decide +kernel
theorem dX1_takeSheet_78 : decode cX1_takeSheet 78 = .ok (.ireturn, 1) := by decide +kernel
theorem dX1_freeSheet_0 : decode cX1_freeSheet 0 = .ok (.aload_n 0, 1) := by decide +kernel
theorem dX1_freeSheet_1 : decode cX1_freeSheet 1 = .ok (.getfield 28, 3) := by decide +kernel
theorem dX1_freeSheet_4 : decode cX1_freeSheet 4 = .ok (.iload_n 1, 1) := by decide +kernel
theorem dX1_freeSheet_5 : decode cX1_freeSheet 5 = .ok (.iaload, 1) := by decide +kernel
theorem dX1_freeSheet_6 : decode cX1_freeSheet 6 = .ok (.istore_n 2, 1) := by decide +kernel
theorem dX1_freeSheet_7 : decode cX1_freeSheet 7 = .ok (.iload_n 2, 1) := by decide +kernel
theorem dX1_freeSheet_8 : decode cX1_freeSheet 8 = .ok (.iconst (-1), 1) := by decide +kernel
theorem dX1_freeSheet_9 : decode cX1_freeSheet 9 = .ok (.if_icmp .eq 17, 3) := by decide +kernel
theorem dX1_freeSheet_12 : decode cX1_freeSheet 12 = .ok (.aload_n 0, 1) := by decide +kernel
theorem dX1_freeSheet_13 : decode cX1_freeSheet 13 = .ok (.getfield 18, 3) := by decide +kernel
theorem dX1_freeSheet_16 : decode cX1_freeSheet 16 = .ok (.iload_n 2, 1) := by decide +kernel
theorem dX1_freeSheet_17 : decode cX1_freeSheet 17 = .ok (.iconst (-1), 1) := by decide +kernel
theorem dX1_freeSheet_18 : decode cX1_freeSheet 18 = .ok (.iastore, 1) := by decide +kernel
theorem dX1_freeSheet_19 : decode cX1_freeSheet 19 = .ok (.aload_n 0, 1) := by decide +kernel
theorem dX1_freeSheet_20 : decode cX1_freeSheet 20 = .ok (.getfield 28, 3) := by decide +kernel
theorem dX1_freeSheet_23 : decode cX1_freeSheet 23 = .ok (.iload_n 1, 1) := by decide +kernel
theorem dX1_freeSheet_24 : decode cX1_freeSheet 24 = .ok (.iconst (-1), 1) := by decide +kernel
theorem dX1_freeSheet_25 : decode cX1_freeSheet 25 = .ok (.iastore, 1) := by decide +kernel
theorem dX1_freeSheet_26 : decode cX1_freeSheet 26 = .ok (.aload_n 0, 1) := by decide +kernel
theorem dX1_freeSheet_27 : decode cX1_freeSheet 27 = .ok (.getfield 31, 3) := by decide +kernel
theorem dX1_freeSheet_30 : decode cX1_freeSheet 30 = .ok (.iload_n 1, 1) := by decide +kernel
theorem dX1_freeSheet_31 : decode cX1_freeSheet 31 = .ok (.iconst 0, 1) := by decide +kernel
theorem dX1_freeSheet_32 : decode cX1_freeSheet 32 = .ok (.bastore, 1) := by decide +kernel
theorem dX1_freeSheet_33 : decode cX1_freeSheet 33 = .ok (.aload_n 0, 1) := by decide +kernel
theorem dX1_freeSheet_34 : decode cX1_freeSheet 34 = .ok (.getfield 56, 3) := by decide +kernel
theorem dX1_freeSheet_37 : decode cX1_freeSheet 37 = .ok (.sipush 513, 3) := by decide +kernel
theorem dX1_freeSheet_40 : decode cX1_freeSheet 40 = .ok (.if_icmp .ge 23, 3) := by decide +kernel
theorem dX1_freeSheet_43 : decode cX1_freeSheet 43 = .ok (.aload_n 0, 1) := by decide +kernel
theorem dX1_freeSheet_44 : decode cX1_freeSheet 44 = .ok (.getfield 34, 3) := by decide +kernel
theorem dX1_freeSheet_47 : decode cX1_freeSheet 47 = .ok (.aload_n 0, 1) := by decide +kernel
theorem dX1_freeSheet_48 : decode cX1_freeSheet 48 = .ok (.getfield 56, 3) := by decide +kernel
theorem dX1_freeSheet_51 : decode cX1_freeSheet 51 = .ok (.iload_n 1, 1) := by decide +kernel
theorem dX1_freeSheet_52 : decode cX1_freeSheet 52 = .ok (.iastore, 1) := by decide +kernel
theorem dX1_freeSheet_53 : decode cX1_freeSheet 53 = .ok (.aload_n 0, 1) := by decide +kernel
theorem dX1_freeSheet_54 : decode cX1_freeSheet 54 = .ok (.dup, 1) := by decide +kernel
theorem dX1_freeSheet_55 : decode cX1_freeSheet 55 = .ok (.getfield 56, 3) := by decide +kernel
theorem dX1_freeSheet_58 : decode cX1_freeSheet 58 = .ok (.iconst 1, 1) := by decide +kernel
theorem dX1_freeSheet_59 : decode cX1_freeSheet 59 = .ok (.iadd, 1) := by decide +kernel
theorem dX1_freeSheet_60 : decode cX1_freeSheet 60 = .ok (.putfield 56, 3) := by decide +kernel
theorem dX1_freeSheet_63 : decode cX1_freeSheet 63 = .ok (.return_, 1) := by decide +kernel
theorem dX1_countWrongUses_0 : decode cX1_countWrongUses 0 = .ok (.iconst 0, 1) := by decide +kernel
theorem dX1_countWrongUses_1 : decode cX1_countWrongUses 1 = .ok (.istore_n 2, 1) := by decide +kernel
theorem dX1_countWrongUses_2 : decode cX1_countWrongUses 2 = .ok (.aload_n 0, 1) := by decide +kernel
theorem dX1_countWrongUses_3 : decode cX1_countWrongUses 3 = .ok (.getfield 37, 3) := by decide +kernel
theorem dX1_countWrongUses_6 : decode cX1_countWrongUses 6 = .ok (.iconst 0, 1) := by decide +kernel
theorem dX1_countWrongUses_7 : decode cX1_countWrongUses 7 = .ok (.invokestatic 50, 3) := by decide +kernel
theorem dX1_countWrongUses_10 : decode cX1_countWrongUses 10 = .ok (.aload_n 0, 1) := by decide +kernel
theorem dX1_countWrongUses_11 : decode cX1_countWrongUses 11 = .ok (.getfield 37, 3) := by decide +kernel
theorem dX1_countWrongUses_14 : decode cX1_countWrongUses 14 = .ok (.iconst 0, 1) := by decide +kernel
theorem dX1_countWrongUses_15 : decode cX1_countWrongUses 15 = .ok (.iconst 1, 1) := by decide +kernel
theorem dX1_countWrongUses_16 : decode cX1_countWrongUses 16 = .ok (.iastore, 1) := by decide +kernel
theorem dX1_countWrongUses_17 : decode cX1_countWrongUses 17 = .ok (.iconst 0, 1) := by decide +kernel
theorem dX1_countWrongUses_18 : decode cX1_countWrongUses 18 = .ok (.istore_n 3, 1) := by decide +kernel
theorem dX1_countWrongUses_19 : decode cX1_countWrongUses 19 = .ok (.iload_n 3, 1) := by decide +kernel
theorem dX1_countWrongUses_20 : decode cX1_countWrongUses 20 = .ok (.aload_n 1, 1) := by decide +kernel
theorem dX1_countWrongUses_21 : decode cX1_countWrongUses 21 = .ok (.arraylength, 1) := by decide +kernel
theorem dX1_countWrongUses_22 : decode cX1_countWrongUses 22 = .ok (.if_icmp .ge 91, 3) := by decide +kernel
theorem dX1_countWrongUses_25 : decode cX1_countWrongUses 25 = .ok (.aload_n 1, 1) := by decide +kernel
theorem dX1_countWrongUses_26 : decode cX1_countWrongUses 26 = .ok (.iload_n 3, 1) := by decide +kernel
theorem dX1_countWrongUses_27 : decode cX1_countWrongUses 27 = .ok (.aaload, 1) := by decide +kernel
theorem dX1_countWrongUses_28 : decode cX1_countWrongUses 28 = .ok (.astore 4, 2) := by decide +kernel
theorem dX1_countWrongUses_30 : decode cX1_countWrongUses 30 = .ok (.iconst 0, 1) := by decide +kernel
theorem dX1_countWrongUses_31 : decode cX1_countWrongUses 31 = .ok (.istore 5, 2) := by decide +kernel
theorem dX1_countWrongUses_33 : decode cX1_countWrongUses 33 = .ok (.aload 4, 2) := by decide +kernel
theorem dX1_countWrongUses_35 : decode cX1_countWrongUses 35 = .ok (.ifnull 72, 3) := by decide +kernel
theorem dX1_countWrongUses_38 : decode cX1_countWrongUses 38 = .ok (.aload 4, 2) := by decide +kernel
theorem dX1_countWrongUses_40 : decode cX1_countWrongUses 40 = .ok (.getfield 127, 3) := by decide +kernel
theorem dX1_countWrongUses_43 : decode cX1_countWrongUses 43 = .ok (.ifCond .eq 64, 3) := by decide +kernel
theorem dX1_countWrongUses_46 : decode cX1_countWrongUses 46 = .ok (.iload 5, 2) := by decide +kernel
theorem dX1_countWrongUses_48 : decode cX1_countWrongUses 48 = .ok (.aload 4, 2) := by decide +kernel
theorem dX1_countWrongUses_50 : decode cX1_countWrongUses 50 = .ok (.getfield 59, 3) := by decide +kernel
theorem dX1_countWrongUses_53 : decode cX1_countWrongUses 53 = .ok (.if_icmp .ge 54, 3) := by decide +kernel
theorem dX1_countWrongUses_56 : decode cX1_countWrongUses 56 = .ok (.iload 5, 2) := by decide +kernel
theorem dX1_countWrongUses_58 : decode cX1_countWrongUses 58 = .ok (.bipush 64, 2) := by decide +kernel
theorem dX1_countWrongUses_60 : decode cX1_countWrongUses 60 = .ok (.if_icmp .ge 47, 3) := by decide +kernel
theorem dX1_countWrongUses_63 : decode cX1_countWrongUses 63 = .ok (.aload_n 0, 1) := by decide +kernel
theorem dX1_countWrongUses_64 : decode cX1_countWrongUses 64 = .ok (.aload 4, 2) := by decide +kernel
theorem dX1_countWrongUses_66 : decode cX1_countWrongUses 66 = .ok (.getfield 62, 3) := by decide +kernel
theorem dX1_countWrongUses_69 : decode cX1_countWrongUses 69 = .ok (.iload 5, 2) := by decide +kernel
theorem dX1_countWrongUses_71 : decode cX1_countWrongUses 71 = .ok (.iaload, 1) := by decide +kernel
theorem dX1_countWrongUses_72 : decode cX1_countWrongUses 72 = .ok (.invokevirtual 65, 3) := by decide +kernel
theorem dX1_countWrongUses_75 : decode cX1_countWrongUses 75 = .ok (.ifCond .eq 23, 3) := by decide +kernel
theorem dX1_countWrongUses_78 : decode cX1_countWrongUses 78 = .ok (.aload_n 0, 1) := by decide +kernel
theorem dX1_countWrongUses_79 : decode cX1_countWrongUses 79 = .ok (.getfield 37, 3) := by decide +kernel
theorem dX1_countWrongUses_82 : decode cX1_countWrongUses 82 = .ok (.aload 4, 2) := by decide +kernel
theorem dX1_countWrongUses_84 : decode cX1_countWrongUses 84 = .ok (.getfield 62, 3) := by decide +kernel
theorem dX1_countWrongUses_87 : decode cX1_countWrongUses 87 = .ok (.iload 5, 2) := by decide +kernel
theorem dX1_countWrongUses_89 : decode cX1_countWrongUses 89 = .ok (.iaload, 1) := by decide +kernel
theorem dX1_countWrongUses_90 : decode cX1_countWrongUses 90 = .ok (.dup2, 1) := by decide +kernel
theorem dX1_countWrongUses_91 : decode cX1_countWrongUses 91 = .ok (.iaload, 1) := by decide +kernel
theorem dX1_countWrongUses_92 : decode cX1_countWrongUses 92 = .ok (.iconst 1, 1) := by decide +kernel
theorem dX1_countWrongUses_93 : decode cX1_countWrongUses 93 = .ok (.iadd, 1) := by decide +kernel
theorem dX1_countWrongUses_94 : decode cX1_countWrongUses 94 = .ok (.iastore, 1) := by decide +kernel
theorem dX1_countWrongUses_95 : decode cX1_countWrongUses 95 = .ok (.goto 6, 3) := by decide +kernel
theorem dX1_countWrongUses_98 : decode cX1_countWrongUses 98 = .ok (.iinc 2 1, 3) := by decide +kernel
theorem dX1_countWrongUses_101 : decode cX1_countWrongUses 101 = .ok (.iinc 5 1, 3) := by decide +kernel
theorem dX1_countWrongUses_104 : decode cX1_countWrongUses 104 = .ok (.goto (-71), 3) := by decide +kernel
theorem dX1_countWrongUses_107 : decode cX1_countWrongUses 107 = .ok (.iinc 3 1, 3) := by decide +kernel
theorem dX1_countWrongUses_110 : decode cX1_countWrongUses 110 = .ok (.goto (-91), 3) := by decide +kernel
theorem dX1_countWrongUses_113 : decode cX1_countWrongUses 113 = .ok (.iconst 0, 1) := by decide +kernel
theorem dX1_countWrongUses_114 : decode cX1_countWrongUses 114 = .ok (.istore_n 3, 1) := by decide +kernel
theorem dX1_countWrongUses_115 : decode cX1_countWrongUses 115 = .ok (.iload_n 3, 1) := by decide +kernel
theorem dX1_countWrongUses_116 : decode cX1_countWrongUses 116 = .ok (.sipush 513, 3) := by decide +kernel
theorem dX1_countWrongUses_119 : decode cX1_countWrongUses 119 = .ok (.if_icmp .ge 32, 3) := by decide +kernel
theorem dX1_countWrongUses_122 : decode cX1_countWrongUses 122 = .ok (.iload_n 2, 1) := by decide +kernel
theorem dX1_countWrongUses_123 : decode cX1_countWrongUses 123 = .ok (.aload_n 0, 1) := by decide +kernel
theorem dX1_countWrongUses_124 : decode cX1_countWrongUses 124 = .ok (.getfield 37, 3) := by decide +kernel
theorem dX1_countWrongUses_127 : decode cX1_countWrongUses 127 = .ok (.iload_n 3, 1) := by decide +kernel
theorem dX1_countWrongUses_128 : decode cX1_countWrongUses 128 = .ok (.iaload, 1) := by decide +kernel
theorem dX1_countWrongUses_129 : decode cX1_countWrongUses 129 = .ok (.aload_n 0, 1) := by decide +kernel
theorem dX1_countWrongUses_130 : decode cX1_countWrongUses 130 = .ok (.getfield 25, 3) := by decide +kernel
theorem dX1_countWrongUses_133 : decode cX1_countWrongUses 133 = .ok (.iload_n 3, 1) := by decide +kernel
theorem dX1_countWrongUses_134 : decode cX1_countWrongUses 134 = .ok (.iaload, 1) := by decide +kernel
theorem dX1_countWrongUses_135 : decode cX1_countWrongUses 135 = .ok (.if_icmp .ne 7, 3) := by decide +kernel
theorem dX1_countWrongUses_138 : decode cX1_countWrongUses 138 = .ok (.iconst 0, 1) := by decide +kernel
theorem dX1_countWrongUses_139 : decode cX1_countWrongUses 139 = .ok (.goto 4, 3) := by decide +kernel
theorem dX1_countWrongUses_142 : decode cX1_countWrongUses 142 = .ok (.iconst 1, 1) := by decide +kernel
theorem dX1_countWrongUses_143 : decode cX1_countWrongUses 143 = .ok (.iadd, 1) := by decide +kernel
theorem dX1_countWrongUses_144 : decode cX1_countWrongUses 144 = .ok (.istore_n 2, 1) := by decide +kernel
theorem dX1_countWrongUses_145 : decode cX1_countWrongUses 145 = .ok (.iinc 3 1, 3) := by decide +kernel
theorem dX1_countWrongUses_148 : decode cX1_countWrongUses 148 = .ok (.goto (-33), 3) := by decide +kernel
theorem dX1_countWrongUses_151 : decode cX1_countWrongUses 151 = .ok (.iload_n 2, 1) := by decide +kernel
theorem dX1_countWrongUses_152 : decode cX1_countWrongUses 152 = .ok (.ireturn, 1) := by decide +kernel
theorem dX1_countWrongSheets_0 : decode cX1_countWrongSheets 0 = .ok (.iconst 0, 1) := by decide +kernel
theorem dX1_countWrongSheets_1 : decode cX1_countWrongSheets 1 = .ok (.istore_n 1, 1) := by decide +kernel
theorem dX1_countWrongSheets_2 : decode cX1_countWrongSheets 2 = .ok (.iconst 0, 1) := by decide +kernel
theorem dX1_countWrongSheets_3 : decode cX1_countWrongSheets 3 = .ok (.istore_n 2, 1) := by decide +kernel
theorem dX1_countWrongSheets_4 : decode cX1_countWrongSheets 4 = .ok (.iload_n 2, 1) := by decide +kernel
theorem dX1_countWrongSheets_5 : decode cX1_countWrongSheets 5 = .ok (.sipush 513, 3) := by decide +kernel
theorem dX1_countWrongSheets_8 : decode cX1_countWrongSheets 8 = .ok (.if_icmp .ge 97, 3) := by decide +kernel
theorem dX1_countWrongSheets_11 : decode cX1_countWrongSheets 11 = .ok (.aload_n 0, 1) := by decide +kernel
theorem dX1_countWrongSheets_12 : decode cX1_countWrongSheets 12 = .ok (.getfield 28, 3) := by decide +kernel
theorem dX1_countWrongSheets_15 : decode cX1_countWrongSheets 15 = .ok (.iload_n 2, 1) := by decide +kernel
theorem dX1_countWrongSheets_16 : decode cX1_countWrongSheets 16 = .ok (.iaload, 1) := by decide +kernel
theorem dX1_countWrongSheets_17 : decode cX1_countWrongSheets 17 = .ok (.istore_n 3, 1) := by decide +kernel
theorem dX1_countWrongSheets_18 : decode cX1_countWrongSheets 18 = .ok (.iload_n 3, 1) := by decide +kernel
theorem dX1_countWrongSheets_19 : decode cX1_countWrongSheets 19 = .ok (.iconst (-1), 1) := by decide +kernel
theorem dX1_countWrongSheets_20 : decode cX1_countWrongSheets 20 = .ok (.if_icmp .ne 23, 3) := by decide +kernel
theorem dX1_countWrongSheets_23 : decode cX1_countWrongSheets 23 = .ok (.iload_n 1, 1) := by decide +kernel
theorem dX1_countWrongSheets_24 : decode cX1_countWrongSheets 24 = .ok (.aload_n 0, 1) := by decide +kernel
theorem dX1_countWrongSheets_25 : decode cX1_countWrongSheets 25 = .ok (.getfield 31, 3) := by decide +kernel
theorem dX1_countWrongSheets_28 : decode cX1_countWrongSheets 28 = .ok (.iload_n 2, 1) := by decide +kernel
theorem dX1_countWrongSheets_29 : decode cX1_countWrongSheets 29 = .ok (.baload, 1) := by decide +kernel
theorem dX1_countWrongSheets_30 : decode cX1_countWrongSheets 30 = .ok (.ifCond .eq 7, 3) := by decide +kernel
theorem dX1_countWrongSheets_33 : decode cX1_countWrongSheets 33 = .ok (.iconst 1, 1) := by decide +kernel
theorem dX1_countWrongSheets_34 : decode cX1_countWrongSheets 34 = .ok (.goto 4, 3) := by decide +kernel
theorem dX1_countWrongSheets_37 : decode cX1_countWrongSheets 37 = .ok (.iconst 0, 1) := by decide +kernel
theorem dX1_countWrongSheets_38 : decode cX1_countWrongSheets 38 = .ok (.iadd, 1) := by decide +kernel
theorem dX1_countWrongSheets_39 : decode cX1_countWrongSheets 39 = .ok (.istore_n 1, 1) := by decide +kernel
theorem dX1_countWrongSheets_40 : decode cX1_countWrongSheets 40 = .ok (.goto 59, 3) := by decide +kernel
theorem dX1_countWrongSheets_43 : decode cX1_countWrongSheets 43 = .ok (.iload_n 3, 1) := by decide +kernel
theorem dX1_countWrongSheets_44 : decode cX1_countWrongSheets 44 = .ok (.ifCond .lt 31, 3) := by decide +kernel
theorem dX1_countWrongSheets_47 : decode cX1_countWrongSheets 47 = .ok (.iload_n 3, 1) := by decide +kernel
theorem dX1_countWrongSheets_48 : decode cX1_countWrongSheets 48 = .ok (.aload_n 0, 1) := by decide +kernel
theorem dX1_countWrongSheets_49 : decode cX1_countWrongSheets 49 = .ok (.getfield 44, 3) := by decide +kernel
theorem dX1_countWrongSheets_52 : decode cX1_countWrongSheets 52 = .ok (.if_icmp .ge 23, 3) := by decide +kernel
theorem dX1_countWrongSheets_55 : decode cX1_countWrongSheets 55 = .ok (.aload_n 0, 1) := by decide +kernel
theorem dX1_countWrongSheets_56 : decode cX1_countWrongSheets 56 = .ok (.getfield 18, 3) := by decide +kernel
theorem dX1_countWrongSheets_59 : decode cX1_countWrongSheets 59 = .ok (.iload_n 3, 1) := by decide +kernel
theorem dX1_countWrongSheets_60 : decode cX1_countWrongSheets 60 = .ok (.iaload, 1) := by decide +kernel
theorem dX1_countWrongSheets_61 : decode cX1_countWrongSheets 61 = .ok (.iload_n 2, 1) := by decide +kernel
theorem dX1_countWrongSheets_62 : decode cX1_countWrongSheets 62 = .ok (.if_icmp .ne 13, 3) := by decide +kernel
theorem dX1_countWrongSheets_65 : decode cX1_countWrongSheets 65 = .ok (.aload_n 0, 1) := by decide +kernel
theorem dX1_countWrongSheets_66 : decode cX1_countWrongSheets 66 = .ok (.getfield 25, 3) := by decide +kernel
theorem dX1_countWrongSheets_69 : decode cX1_countWrongSheets 69 = .ok (.iload_n 2, 1) := by decide +kernel
theorem dX1_countWrongSheets_70 : decode cX1_countWrongSheets 70 = .ok (.iaload, 1) := by decide +kernel
theorem dX1_countWrongSheets_71 : decode cX1_countWrongSheets 71 = .ok (.iconst 1, 1) := by decide +kernel
theorem dX1_countWrongSheets_72 : decode cX1_countWrongSheets 72 = .ok (.if_icmp .ge 9, 3) := by decide +kernel
theorem dX1_countWrongSheets_75 : decode cX1_countWrongSheets 75 = .ok (.iinc 1 1, 3) := by decide +kernel
theorem dX1_countWrongSheets_78 : decode cX1_countWrongSheets 78 = .ok (.goto 21, 3) := by decide +kernel
theorem dX1_countWrongSheets_81 : decode cX1_countWrongSheets 81 = .ok (.aload_n 0, 1) := by decide +kernel
theorem dX1_countWrongSheets_82 : decode cX1_countWrongSheets 82 = .ok (.getfield 31, 3) := by decide +kernel
theorem dX1_countWrongSheets_85 : decode cX1_countWrongSheets 85 = .ok (.iload_n 2, 1) := by decide +kernel
theorem dX1_countWrongSheets_86 : decode cX1_countWrongSheets 86 = .ok (.baload, 1) := by decide +kernel
theorem dX1_countWrongSheets_87 : decode cX1_countWrongSheets 87 = .ok (.ifCond .ne 12, 3) := by decide +kernel
theorem dX1_countWrongSheets_90 : decode cX1_countWrongSheets 90 = .ok (.iload_n 1, 1) := by decide +kernel
theorem dX1_countWrongSheets_91 : decode cX1_countWrongSheets 91 = .ok (.aload_n 0, 1) := by decide +kernel
theorem dX1_countWrongSheets_92 : decode cX1_countWrongSheets 92 = .ok (.iload_n 3, 1) := by decide +kernel
theorem dX1_countWrongSheets_93 : decode cX1_countWrongSheets 93 = .ok (.iload_n 2, 1) := by decide +kernel
theorem dX1_countWrongSheets_94 : decode cX1_countWrongSheets 94 = .ok (.invokevirtual 131, 3) := by decide +kernel
theorem dX1_countWrongSheets_97 : decode cX1_countWrongSheets 97 = .ok (.iadd, 1) := by decide +kernel
theorem dX1_countWrongSheets_98 : decode cX1_countWrongSheets 98 = .ok (.istore_n 1, 1) := by decide +kernel
theorem dX1_countWrongSheets_99 : decode cX1_countWrongSheets 99 = .ok (.iinc 2 1, 3) := by decide +kernel
theorem dX1_countWrongSheets_102 : decode cX1_countWrongSheets 102 = .ok (.goto (-98), 3) := by decide +kernel
theorem dX1_countWrongSheets_105 : decode cX1_countWrongSheets 105 = .ok (.iconst 0, 1) := by decide +kernel
theorem dX1_countWrongSheets_106 : decode cX1_countWrongSheets 106 = .ok (.istore_n 2, 1) := by decide +kernel
theorem dX1_countWrongSheets_107 : decode cX1_countWrongSheets 107 = .ok (.iload_n 2, 1) := by decide +kernel
theorem dX1_countWrongSheets_108 : decode cX1_countWrongSheets 108 = .ok (.bipush 64, 2) := by decide +kernel
theorem dX1_countWrongSheets_110 : decode cX1_countWrongSheets 110 = .ok (.if_icmp .ge 28, 3) := by decide +kernel
theorem dX1_countWrongSheets_113 : decode cX1_countWrongSheets 113 = .ok (.iload_n 1, 1) := by decide +kernel
theorem dX1_countWrongSheets_114 : decode cX1_countWrongSheets 114 = .ok (.aload_n 0, 1) := by decide +kernel
theorem dX1_countWrongSheets_115 : decode cX1_countWrongSheets 115 = .ok (.getfield 15, 3) := by decide +kernel
theorem dX1_countWrongSheets_118 : decode cX1_countWrongSheets 118 = .ok (.iconst 0, 1) := by decide +kernel
theorem dX1_countWrongSheets_119 : decode cX1_countWrongSheets 119 = .ok (.iload_n 2, 1) := by decide +kernel
theorem dX1_countWrongSheets_120 : decode cX1_countWrongSheets 120 = .ok (.iadd, 1) := by decide +kernel
theorem dX1_countWrongSheets_121 : decode cX1_countWrongSheets 121 = .ok (.iaload, 1) := by decide +kernel
theorem dX1_countWrongSheets_122 : decode cX1_countWrongSheets 122 = .ok (.ifCond .ne 7, 3) := by decide +kernel
theorem dX1_countWrongSheets_125 : decode cX1_countWrongSheets 125 = .ok (.iconst 0, 1) := by decide +kernel
theorem dX1_countWrongSheets_126 : decode cX1_countWrongSheets 126 = .ok (.goto 4, 3) := by decide +kernel
theorem dX1_countWrongSheets_129 : decode cX1_countWrongSheets 129 = .ok (.iconst 1, 1) := by decide +kernel
theorem dX1_countWrongSheets_130 : decode cX1_countWrongSheets 130 = .ok (.iadd, 1) := by decide +kernel
theorem dX1_countWrongSheets_131 : decode cX1_countWrongSheets 131 = .ok (.istore_n 1, 1) := by decide +kernel
theorem dX1_countWrongSheets_132 : decode cX1_countWrongSheets 132 = .ok (.iinc 2 1, 3) := by decide +kernel
theorem dX1_countWrongSheets_135 : decode cX1_countWrongSheets 135 = .ok (.goto (-28), 3) := by decide +kernel
theorem dX1_countWrongSheets_138 : decode cX1_countWrongSheets 138 = .ok (.iload_n 1, 1) := by decide +kernel
theorem dX1_countWrongSheets_139 : decode cX1_countWrongSheets 139 = .ok (.aload_n 0, 1) := by decide +kernel
theorem dX1_countWrongSheets_140 : decode cX1_countWrongSheets 140 = .ok (.getfield 31, 3) := by decide +kernel
theorem dX1_countWrongSheets_143 : decode cX1_countWrongSheets 143 = .ok (.iconst 0, 1) := by decide +kernel
theorem dX1_countWrongSheets_144 : decode cX1_countWrongSheets 144 = .ok (.baload, 1) := by decide +kernel
theorem dX1_countWrongSheets_145 : decode cX1_countWrongSheets 145 = .ok (.ifCond .eq 7, 3) := by decide +kernel
theorem dX1_countWrongSheets_148 : decode cX1_countWrongSheets 148 = .ok (.iconst 1, 1) := by decide +kernel
theorem dX1_countWrongSheets_149 : decode cX1_countWrongSheets 149 = .ok (.goto 4, 3) := by decide +kernel
theorem dX1_countWrongSheets_152 : decode cX1_countWrongSheets 152 = .ok (.iconst 0, 1) := by decide +kernel
theorem dX1_countWrongSheets_153 : decode cX1_countWrongSheets 153 = .ok (.iadd, 1) := by decide +kernel
theorem dX1_countWrongSheets_154 : decode cX1_countWrongSheets 154 = .ok (.ireturn, 1) := by decide +kernel
theorem dX1_countDifferent_0 : decode cX1_countDifferent 0 = .ok (.iconst 0, 1) := by decide +kernel
theorem dX1_countDifferent_1 : decode cX1_countDifferent 1 = .ok (.istore_n 3, 1) := by decide +kernel
theorem dX1_countDifferent_2 : decode cX1_countDifferent 2 = .ok (.iconst 0, 1) := by decide +kernel
theorem dX1_countDifferent_3 : decode cX1_countDifferent 3 = .ok (.istore 4, 2) := by decide +kernel
theorem dX1_countDifferent_5 : decode cX1_countDifferent 5 = .ok (.iload 4, 2) := by decide +kernel
theorem dX1_countDifferent_7 : decode cX1_countDifferent 7 = .ok (.bipush 64, 2) := by decide +kernel
theorem dX1_countDifferent_9 : decode cX1_countDifferent 9 = .ok (.if_icmp .ge 44, 3) := by decide +kernel
theorem dX1_countDifferent_12 : decode cX1_countDifferent 12 = .ok (.iload_n 3, 1) := by decide +kernel
theorem dX1_countDifferent_13 : decode cX1_countDifferent 13 = .ok (.aload_n 0, 1) := by decide +kernel
theorem dX1_countDifferent_14 : decode cX1_countDifferent 14 = .ok (.getfield 9, 3) := by decide +kernel
theorem dX1_countDifferent_17 : decode cX1_countDifferent 17 = .ok (.iload_n 1, 1) := by decide +kernel
theorem dX1_countDifferent_18 : decode cX1_countDifferent 18 = .ok (.bipush 64, 2) := by decide +kernel
theorem dX1_countDifferent_20 : decode cX1_countDifferent 20 = .ok (.imul, 1) := by decide +kernel
theorem dX1_countDifferent_21 : decode cX1_countDifferent 21 = .ok (.iload 4, 2) := by decide +kernel
theorem dX1_countDifferent_23 : decode cX1_countDifferent 23 = .ok (.iadd, 1) := by decide +kernel
theorem dX1_countDifferent_24 : decode cX1_countDifferent 24 = .ok (.iaload, 1) := by decide +kernel
theorem dX1_countDifferent_25 : decode cX1_countDifferent 25 = .ok (.aload_n 0, 1) := by decide +kernel
theorem dX1_countDifferent_26 : decode cX1_countDifferent 26 = .ok (.getfield 15, 3) := by decide +kernel
theorem dX1_countDifferent_29 : decode cX1_countDifferent 29 = .ok (.iload_n 2, 1) := by decide +kernel
theorem dX1_countDifferent_30 : decode cX1_countDifferent 30 = .ok (.bipush 64, 2) := by decide +kernel
theorem dX1_countDifferent_32 : decode cX1_countDifferent 32 = .ok (.imul, 1) := by decide +kernel
theorem dX1_countDifferent_33 : decode cX1_countDifferent 33 = .ok (.iload 4, 2) := by decide +kernel
theorem dX1_countDifferent_35 : decode cX1_countDifferent 35 = .ok (.iadd, 1) := by decide +kernel
theorem dX1_countDifferent_36 : decode cX1_countDifferent 36 = .ok (.iaload, 1) := by decide +kernel
theorem dX1_countDifferent_37 : decode cX1_countDifferent 37 = .ok (.if_icmp .ne 7, 3) := by decide +kernel
theorem dX1_countDifferent_40 : decode cX1_countDifferent 40 = .ok (.iconst 0, 1) := by decide +kernel
theorem dX1_countDifferent_41 : decode cX1_countDifferent 41 = .ok (.goto 4, 3) := by decide +kernel
theorem dX1_countDifferent_44 : decode cX1_countDifferent 44 = .ok (.iconst 1, 1) := by decide +kernel
theorem dX1_countDifferent_45 : decode cX1_countDifferent 45 = .ok (.iadd, 1) := by decide +kernel
theorem dX1_countDifferent_46 : decode cX1_countDifferent 46 = .ok (.istore_n 3, 1) := by decide +kernel
theorem dX1_countDifferent_47 : decode cX1_countDifferent 47 = .ok (.iinc 4 1, 3) := by decide +kernel
theorem dX1_countDifferent_50 : decode cX1_countDifferent 50 = .ok (.goto (-45), 3) := by decide +kernel
theorem dX1_countDifferent_53 : decode cX1_countDifferent 53 = .ok (.iload_n 3, 1) := by decide +kernel
theorem dX1_countDifferent_54 : decode cX1_countDifferent 54 = .ok (.ireturn, 1) := by decide +kernel
theorem dX1_countWrongFrames_0 : decode cX1_countWrongFrames 0 = .ok (.aload_n 0, 1) := by decide +kernel
theorem dX1_countWrongFrames_1 : decode cX1_countWrongFrames 1 = .ok (.getfield 47, 3) := by decide +kernel
theorem dX1_countWrongFrames_4 : decode cX1_countWrongFrames 4 = .ok (.ifCond .lt 14, 3) := by decide +kernel
theorem dX1_countWrongFrames_7 : decode cX1_countWrongFrames 7 = .ok (.aload_n 0, 1) := by decide +kernel
theorem dX1_countWrongFrames_8 : decode cX1_countWrongFrames 8 = .ok (.getfield 47, 3) := by decide +kernel
theorem dX1_countWrongFrames_11 : decode cX1_countWrongFrames 11 = .ok (.aload_n 0, 1) := by decide +kernel
theorem dX1_countWrongFrames_12 : decode cX1_countWrongFrames 12 = .ok (.getfield 40, 3) := by decide +kernel
theorem dX1_countWrongFrames_15 : decode cX1_countWrongFrames 15 = .ok (.if_icmp .lt 7, 3) := by decide +kernel
theorem dX1_countWrongFrames_18 : decode cX1_countWrongFrames 18 = .ok (.iconst 1, 1) := by decide +kernel
theorem dX1_countWrongFrames_19 : decode cX1_countWrongFrames 19 = .ok (.goto 4, 3) := by decide +kernel
theorem dX1_countWrongFrames_22 : decode cX1_countWrongFrames 22 = .ok (.iconst 0, 1) := by decide +kernel
theorem dX1_countWrongFrames_23 : decode cX1_countWrongFrames 23 = .ok (.istore_n 1, 1) := by decide +kernel
theorem dX1_countWrongFrames_24 : decode cX1_countWrongFrames 24 = .ok (.iload_n 1, 1) := by decide +kernel
theorem dX1_countWrongFrames_25 : decode cX1_countWrongFrames 25 = .ok (.aload_n 0, 1) := by decide +kernel
theorem dX1_countWrongFrames_26 : decode cX1_countWrongFrames 26 = .ok (.getfield 44, 3) := by decide +kernel
theorem dX1_countWrongFrames_29 : decode cX1_countWrongFrames 29 = .ok (.ifCond .lt 14, 3) := by decide +kernel
theorem dX1_countWrongFrames_32 : decode cX1_countWrongFrames 32 = .ok (.aload_n 0, 1) := by decide +kernel
theorem dX1_countWrongFrames_33 : decode cX1_countWrongFrames 33 = .ok (.getfield 44, 3) := by decide +kernel
theorem dX1_countWrongFrames_36 : decode cX1_countWrongFrames 36 = .ok (.aload_n 0, 1) := by decide +kernel
theorem dX1_countWrongFrames_37 : decode cX1_countWrongFrames 37 = .ok (.getfield 40, 3) := by decide +kernel
theorem dX1_countWrongFrames_40 : decode cX1_countWrongFrames 40 = .ok (.if_icmp .le 7, 3) := by decide +kernel
theorem dX1_countWrongFrames_43 : decode cX1_countWrongFrames 43 = .ok (.iconst 1, 1) := by decide +kernel
theorem dX1_countWrongFrames_44 : decode cX1_countWrongFrames 44 = .ok (.goto 4, 3) := by decide +kernel
theorem dX1_countWrongFrames_47 : decode cX1_countWrongFrames 47 = .ok (.iconst 0, 1) := by decide +kernel
theorem dX1_countWrongFrames_48 : decode cX1_countWrongFrames 48 = .ok (.iadd, 1) := by decide +kernel
theorem dX1_countWrongFrames_49 : decode cX1_countWrongFrames 49 = .ok (.istore_n 1, 1) := by decide +kernel
theorem dX1_countWrongFrames_50 : decode cX1_countWrongFrames 50 = .ok (.iconst 0, 1) := by decide +kernel
theorem dX1_countWrongFrames_51 : decode cX1_countWrongFrames 51 = .ok (.istore_n 2, 1) := by decide +kernel
theorem dX1_countWrongFrames_52 : decode cX1_countWrongFrames 52 = .ok (.iload_n 2, 1) := by decide +kernel
theorem dX1_countWrongFrames_53 : decode cX1_countWrongFrames 53 = .ok (.sipush 256, 3) := by decide +kernel
theorem dX1_countWrongFrames_56 : decode cX1_countWrongFrames 56 = .ok (.if_icmp .ge 67, 3) := by decide +kernel
theorem dX1_countWrongFrames_59 : decode cX1_countWrongFrames 59 = .ok (.aload_n 0, 1) := by decide +kernel
theorem dX1_countWrongFrames_60 : decode cX1_countWrongFrames 60 = .ok (.getfield 18, 3) := by decide +kernel
theorem dX1_countWrongFrames_63 : decode cX1_countWrongFrames 63 = .ok (.iload_n 2, 1) := by decide +kernel
theorem dX1_countWrongFrames_64 : decode cX1_countWrongFrames 64 = .ok (.iaload, 1) := by decide +kernel
theorem dX1_countWrongFrames_65 : decode cX1_countWrongFrames 65 = .ok (.istore_n 3, 1) := by decide +kernel
theorem dX1_countWrongFrames_66 : decode cX1_countWrongFrames 66 = .ok (.iload_n 3, 1) := by decide +kernel
theorem dX1_countWrongFrames_67 : decode cX1_countWrongFrames 67 = .ok (.iconst (-1), 1) := by decide +kernel
theorem dX1_countWrongFrames_68 : decode cX1_countWrongFrames 68 = .ok (.if_icmp .eq 29, 3) := by decide +kernel
theorem dX1_countWrongFrames_71 : decode cX1_countWrongFrames 71 = .ok (.iload_n 2, 1) := by decide +kernel
theorem dX1_countWrongFrames_72 : decode cX1_countWrongFrames 72 = .ok (.aload_n 0, 1) := by decide +kernel
theorem dX1_countWrongFrames_73 : decode cX1_countWrongFrames 73 = .ok (.getfield 40, 3) := by decide +kernel
theorem dX1_countWrongFrames_76 : decode cX1_countWrongFrames 76 = .ok (.if_icmp .ge 25, 3) := by decide +kernel
theorem dX1_countWrongFrames_79 : decode cX1_countWrongFrames 79 = .ok (.aload_n 0, 1) := by decide +kernel
theorem dX1_countWrongFrames_80 : decode cX1_countWrongFrames 80 = .ok (.iload_n 3, 1) := by decide +kernel
theorem dX1_countWrongFrames_81 : decode cX1_countWrongFrames 81 = .ok (.invokevirtual 65, 3) := by decide +kernel
theorem dX1_countWrongFrames_84 : decode cX1_countWrongFrames 84 = .ok (.ifCond .eq 17, 3) := by decide +kernel
theorem dX1_countWrongFrames_87 : decode cX1_countWrongFrames 87 = .ok (.aload_n 0, 1) := by decide +kernel
theorem dX1_countWrongFrames_88 : decode cX1_countWrongFrames 88 = .ok (.getfield 28, 3) := by decide +kernel
theorem dX1_countWrongFrames_91 : decode cX1_countWrongFrames 91 = .ok (.iload_n 3, 1) := by decide +kernel
theorem dX1_countWrongFrames_92 : decode cX1_countWrongFrames 92 = .ok (.iaload, 1) := by decide +kernel
theorem dX1_countWrongFrames_93 : decode cX1_countWrongFrames 93 = .ok (.iload_n 2, 1) := by decide +kernel
theorem dX1_countWrongFrames_94 : decode cX1_countWrongFrames 94 = .ok (.if_icmp .ne 7, 3) := by decide +kernel
theorem dX1_countWrongFrames_97 : decode cX1_countWrongFrames 97 = .ok (.iconst 1, 1) := by decide +kernel
theorem dX1_countWrongFrames_98 : decode cX1_countWrongFrames 98 = .ok (.goto 4, 3) := by decide +kernel
theorem dX1_countWrongFrames_101 : decode cX1_countWrongFrames 101 = .ok (.iconst 0, 1) := by decide +kernel
theorem dX1_countWrongFrames_102 : decode cX1_countWrongFrames 102 = .ok (.istore 4, 2) := by decide +kernel
theorem dX1_countWrongFrames_104 : decode cX1_countWrongFrames 104 = .ok (.iload_n 1, 1) := by decide +kernel
theorem dX1_countWrongFrames_105 : decode cX1_countWrongFrames 105 = .ok (.iload 4, 2) := by decide +kernel
theorem dX1_countWrongFrames_107 : decode cX1_countWrongFrames 107 = .ok (.ifCond .eq 7, 3) := by decide +kernel
theorem dX1_countWrongFrames_110 : decode cX1_countWrongFrames 110 = .ok (.iconst 0, 1) := by decide +kernel
theorem dX1_countWrongFrames_111 : decode cX1_countWrongFrames 111 = .ok (.goto 4, 3) := by decide +kernel
theorem dX1_countWrongFrames_114 : decode cX1_countWrongFrames 114 = .ok (.iconst 1, 1) := by decide +kernel
theorem dX1_countWrongFrames_115 : decode cX1_countWrongFrames 115 = .ok (.iadd, 1) := by decide +kernel
theorem dX1_countWrongFrames_116 : decode cX1_countWrongFrames 116 = .ok (.istore_n 1, 1) := by decide +kernel
theorem dX1_countWrongFrames_117 : decode cX1_countWrongFrames 117 = .ok (.iinc 2 1, 3) := by decide +kernel
theorem dX1_countWrongFrames_120 : decode cX1_countWrongFrames 120 = .ok (.goto (-68), 3) := by decide +kernel
theorem dX1_countWrongFrames_123 : decode cX1_countWrongFrames 123 = .ok (.iload_n 1, 1) := by decide +kernel
theorem dX1_countWrongFrames_124 : decode cX1_countWrongFrames 124 = .ok (.ireturn, 1) := by decide +kernel
theorem dX1_countWrongFree_0 : decode cX1_countWrongFree 0 = .ok (.iconst 0, 1) := by decide +kernel
theorem dX1_countWrongFree_1 : decode cX1_countWrongFree 1 = .ok (.istore_n 1, 1) := by decide +kernel
theorem dX1_countWrongFree_2 : decode cX1_countWrongFree 2 = .ok (.aload_n 0, 1) := by decide +kernel
theorem dX1_countWrongFree_3 : decode cX1_countWrongFree 3 = .ok (.getfield 37, 3) := by decide +kernel
theorem dX1_countWrongFree_6 : decode cX1_countWrongFree 6 = .ok (.iconst 0, 1) := by decide +kernel
theorem dX1_countWrongFree_7 : decode cX1_countWrongFree 7 = .ok (.invokestatic 50, 3) := by decide +kernel
theorem dX1_countWrongFree_10 : decode cX1_countWrongFree 10 = .ok (.iconst 0, 1) := by decide +kernel
theorem dX1_countWrongFree_11 : decode cX1_countWrongFree 11 = .ok (.istore_n 2, 1) := by decide +kernel
theorem dX1_countWrongFree_12 : decode cX1_countWrongFree 12 = .ok (.iload_n 2, 1) := by decide +kernel
theorem dX1_countWrongFree_13 : decode cX1_countWrongFree 13 = .ok (.aload_n 0, 1) := by decide +kernel
theorem dX1_countWrongFree_14 : decode cX1_countWrongFree 14 = .ok (.getfield 56, 3) := by decide +kernel
theorem dX1_countWrongFree_17 : decode cX1_countWrongFree 17 = .ok (.if_icmp .ge 50, 3) := by decide +kernel
theorem dX1_countWrongFree_20 : decode cX1_countWrongFree 20 = .ok (.iload_n 2, 1) := by decide +kernel
theorem dX1_countWrongFree_21 : decode cX1_countWrongFree 21 = .ok (.sipush 513, 3) := by decide +kernel
theorem dX1_countWrongFree_24 : decode cX1_countWrongFree 24 = .ok (.if_icmp .ge 43, 3) := by decide +kernel
theorem dX1_countWrongFree_27 : decode cX1_countWrongFree 27 = .ok (.aload_n 0, 1) := by decide +kernel
theorem dX1_countWrongFree_28 : decode cX1_countWrongFree 28 = .ok (.aload_n 0, 1) := by decide +kernel
theorem dX1_countWrongFree_29 : decode cX1_countWrongFree 29 = .ok (.getfield 34, 3) := by decide +kernel
theorem dX1_countWrongFree_32 : decode cX1_countWrongFree 32 = .ok (.iload_n 2, 1) := by decide +kernel
theorem dX1_countWrongFree_33 : decode cX1_countWrongFree 33 = .ok (.iaload, 1) := by decide +kernel
theorem dX1_countWrongFree_34 : decode cX1_countWrongFree 34 = .ok (.invokevirtual 65, 3) := by decide +kernel
theorem dX1_countWrongFree_37 : decode cX1_countWrongFree 37 = .ok (.ifCond .eq 21, 3) := by decide +kernel
theorem dX1_countWrongFree_40 : decode cX1_countWrongFree 40 = .ok (.aload_n 0, 1) := by decide +kernel
theorem dX1_countWrongFree_41 : decode cX1_countWrongFree 41 = .ok (.getfield 37, 3) := by decide +kernel
theorem dX1_countWrongFree_44 : decode cX1_countWrongFree 44 = .ok (.aload_n 0, 1) := by decide +kernel
theorem dX1_countWrongFree_45 : decode cX1_countWrongFree 45 = .ok (.getfield 34, 3) := by decide +kernel
theorem dX1_countWrongFree_48 : decode cX1_countWrongFree 48 = .ok (.iload_n 2, 1) := by decide +kernel
theorem dX1_countWrongFree_49 : decode cX1_countWrongFree 49 = .ok (.iaload, 1) := by decide +kernel
theorem dX1_countWrongFree_50 : decode cX1_countWrongFree 50 = .ok (.dup2, 1) := by decide +kernel
theorem dX1_countWrongFree_51 : decode cX1_countWrongFree 51 = .ok (.iaload, 1) := by decide +kernel
theorem dX1_countWrongFree_52 : decode cX1_countWrongFree 52 = .ok (.iconst 1, 1) := by decide +kernel
theorem dX1_countWrongFree_53 : decode cX1_countWrongFree 53 = .ok (.iadd, 1) := by decide +kernel
theorem dX1_countWrongFree_54 : decode cX1_countWrongFree 54 = .ok (.iastore, 1) := by decide +kernel
theorem dX1_countWrongFree_55 : decode cX1_countWrongFree 55 = .ok (.goto 6, 3) := by decide +kernel
theorem dX1_countWrongFree_58 : decode cX1_countWrongFree 58 = .ok (.iinc 1 1, 3) := by decide +kernel
theorem dX1_countWrongFree_61 : decode cX1_countWrongFree 61 = .ok (.iinc 2 1, 3) := by decide +kernel
theorem dX1_countWrongFree_64 : decode cX1_countWrongFree 64 = .ok (.goto (-52), 3) := by decide +kernel
theorem dX1_countWrongFree_67 : decode cX1_countWrongFree 67 = .ok (.iconst 0, 1) := by decide +kernel
theorem dX1_countWrongFree_68 : decode cX1_countWrongFree 68 = .ok (.istore_n 2, 1) := by decide +kernel
theorem dX1_countWrongFree_69 : decode cX1_countWrongFree 69 = .ok (.iload_n 2, 1) := by decide +kernel
theorem dX1_countWrongFree_70 : decode cX1_countWrongFree 70 = .ok (.sipush 513, 3) := by decide +kernel
theorem dX1_countWrongFree_73 : decode cX1_countWrongFree 73 = .ok (.if_icmp .ge 40, 3) := by decide +kernel
theorem dX1_countWrongFree_76 : decode cX1_countWrongFree 76 = .ok (.iload_n 1, 1) := by decide +kernel
theorem dX1_countWrongFree_77 : decode cX1_countWrongFree 77 = .ok (.aload_n 0, 1) := by decide +kernel
theorem dX1_countWrongFree_78 : decode cX1_countWrongFree 78 = .ok (.getfield 37, 3) := by decide +kernel
theorem dX1_countWrongFree_81 : decode cX1_countWrongFree 81 = .ok (.iload_n 2, 1) := by decide +kernel
theorem dX1_countWrongFree_82 : decode cX1_countWrongFree 82 = .ok (.iaload, 1) := by decide +kernel
theorem dX1_countWrongFree_83 : decode cX1_countWrongFree 83 = .ok (.aload_n 0, 1) := by decide +kernel
theorem dX1_countWrongFree_84 : decode cX1_countWrongFree 84 = .ok (.getfield 25, 3) := by decide +kernel
theorem dX1_countWrongFree_87 : decode cX1_countWrongFree 87 = .ok (.iload_n 2, 1) := by decide +kernel
theorem dX1_countWrongFree_88 : decode cX1_countWrongFree 88 = .ok (.iaload, 1) := by decide +kernel
theorem dX1_countWrongFree_89 : decode cX1_countWrongFree 89 = .ok (.ifCond .ne 7, 3) := by decide +kernel
theorem dX1_countWrongFree_92 : decode cX1_countWrongFree 92 = .ok (.iconst 1, 1) := by decide +kernel
theorem dX1_countWrongFree_93 : decode cX1_countWrongFree 93 = .ok (.goto 4, 3) := by decide +kernel
theorem dX1_countWrongFree_96 : decode cX1_countWrongFree 96 = .ok (.iconst 0, 1) := by decide +kernel
theorem dX1_countWrongFree_97 : decode cX1_countWrongFree 97 = .ok (.if_icmp .ne 7, 3) := by decide +kernel
theorem dX1_countWrongFree_100 : decode cX1_countWrongFree 100 = .ok (.iconst 0, 1) := by decide +kernel
theorem dX1_countWrongFree_101 : decode cX1_countWrongFree 101 = .ok (.goto 4, 3) := by decide +kernel
theorem dX1_countWrongFree_104 : decode cX1_countWrongFree 104 = .ok (.iconst 1, 1) := by decide +kernel
theorem dX1_countWrongFree_105 : decode cX1_countWrongFree 105 = .ok (.iadd, 1) := by decide +kernel
theorem dX1_countWrongFree_106 : decode cX1_countWrongFree 106 = .ok (.istore_n 1, 1) := by decide +kernel
theorem dX1_countWrongFree_107 : decode cX1_countWrongFree 107 = .ok (.iinc 2 1, 3) := by decide +kernel
theorem dX1_countWrongFree_110 : decode cX1_countWrongFree 110 = .ok (.goto (-41), 3) := by decide +kernel
theorem dX1_countWrongFree_113 : decode cX1_countWrongFree 113 = .ok (.iload_n 1, 1) := by decide +kernel
theorem dX1_countWrongFree_114 : decode cX1_countWrongFree 114 = .ok (.ireturn, 1) := by decide +kernel
