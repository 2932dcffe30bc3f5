theorem dX5_isBelow_0 : decode cX5_isBelow 0 = .ok (.iload_n 0, 1) := by decide +kernel
theorem dX5_isBelow_1 : decode cX5_isBelow 1 = .ok (.ldc 1, 2) := by decide +kernel
theorem dX5_isBelow_3 : decode cX5_isBelow 3 = .ok (.iadd, 1) := by decide +kernel
theorem dX5_isBelow_4 : decode cX5_isBelow 4 = .ok (.iload_n 1, 1) := by decide +kernel
theorem dX5_isBelow_5 : decode cX5_isBelow 5 = .ok (.ldc 1, 2) := by decide +kernel
theorem dX5_isBelow_7 : decode cX5_isBelow 7 = .ok (.iadd, 1) := by decide +kernel
theorem dX5_isBelow_8 : decode cX5_isBelow 8 = .ok (.if_icmp .ge 7, 3) := by decide +kernel
theorem dX5_isBelow_11 : decode cX5_isBelow 11 = .ok (.iconst 1, 1) := by decide +kernel
theorem dX5_isBelow_12 : decode cX5_isBelow 12 = .ok (.goto 4, 3) := by decide +kernel
theorem dX5_isBelow_15 : decode cX5_isBelow 15 = .ok (.iconst 0, 1) := by decide +kernel
theorem dX5_isBelow_16 : decode cX5_isBelow 16 = .ok (.ireturn, 1) := by decide +kernel
theorem dX5_init_0 : decode cX5_init 0 = .ok (.aload_n 0, 1) := by decide +kernel
theorem dX5_init_1 : decode cX5_init 1 = .ok (.invokespecial 2, 3) := by decide +kernel
theorem dX5_init_4 : decode cX5_init 4 = .ok (.aload_n 0, 1) := by decide +kernel
theorem dX5_init_5 : decode cX5_init 5 = .ok (.bipush 8, 2) := by decide +kernel
theorem dX5_init_7 : decode cX5_init 7 = .ok (.anewarray 10, 3) := by decide +kernel
theorem dX5_init_10 : decode cX5_init 10 = .ok (.putfield 12, 3) := by decide +kernel
theorem dX5_init_13 : decode cX5_init 13 = .ok (.aload_n 0, 1) := by decide +kernel
theorem dX5_init_14 : decode cX5_init 14 = .ok (.bipush 10, 2) := by decide +kernel
theorem dX5_init_16 : decode cX5_init 16 = .ok (.putfield 16, 3) := by decide +kernel
theorem dX5_init_19 : decode cX5_init 19 = .ok (.aload_n 0, 1) := by decide +kernel
theorem dX5_init_20 : decode cX5_init 20 = .ok (.bipush 7, 2) := by decide +kernel
theorem dX5_init_22 : decode cX5_init 22 = .ok (.putfield 20, 3) := by decide +kernel
theorem dX5_init_25 : decode cX5_init 25 = .ok (.iconst 0, 1) := by decide +kernel
theorem dX5_init_26 : decode cX5_init 26 = .ok (.istore_n 1, 1) := by decide +kernel
theorem dX5_init_27 : decode cX5_init 27 = .ok (.iload_n 1, 1) := by decide +kernel
theorem dX5_init_28 : decode cX5_init 28 = .ok (.bipush 8, 2) := by decide +kernel
theorem dX5_init_30 : decode cX5_init 30 = .ok (.if_icmp .ge 22, 3) := by decide +kernel
theorem dX5_init_33 : decode cX5_init 33 = .ok (.aload_n 0, 1) := by decide +kernel
theorem dX5_init_34 : decode cX5_init 34 = .ok (.getfield 12, 3) := by decide +kernel
theorem dX5_init_37 : decode cX5_init 37 = .ok (.iload_n 1, 1) := by decide +kernel
theorem dX5_init_38 : decode cX5_init 38 = .ok (.new 10, 3) := by decide +kernel
theorem dX5_init_41 : decode cX5_init 41 = .ok (.dup, 1) := by decide +kernel
theorem dX5_init_42 : decode cX5_init 42 = .ok (.invokespecial 23, 3) := by decide +kernel
theorem dX5_init_45 : decode cX5_init 45 = .ok (.aastore, 1) := by decide +kernel
theorem dX5_init_46 : decode cX5_init 46 = .ok (.iinc 1 1, 3) := by decide +kernel
theorem dX5_init_49 : decode cX5_init 49 = .ok (.goto (-22), 3) := by decide +kernel
theorem dX5_init_52 : decode cX5_init 52 = .ok (.return_, 1) := by decide +kernel
theorem dX5_install_0 : decode cX5_install 0 = .ok (.iload_n 1, 1) := by decide +kernel
theorem dX5_install_1 : decode cX5_install 1 = .ok (.iconst 4, 1) := by decide +kernel
theorem dX5_install_2 : decode cX5_install 2 = .ok (.if_icmp .lt 22, 3) := by decide +kernel
theorem dX5_install_5 : decode cX5_install 5 = .ok (.iload_n 1, 1) := by decide +kernel
theorem dX5_install_6 : decode cX5_install 6 = .ok (.sipush 256, 3) := by decide +kernel
theorem dX5_install_9 : decode cX5_install 9 = .ok (.if_icmp .gt 15, 3) := by decide +kernel
theorem dX5_install_12 : decode cX5_install 12 = .ok (.iload_n 2, 1) := by decide +kernel
theorem dX5_install_13 : decode cX5_install 13 = .ok (.iconst 1, 1) := by decide +kernel
theorem dX5_install_14 : decode cX5_install 14 = .ok (.if_icmp .lt 10, 3) := by decide +kernel
theorem dX5_install_17 : decode cX5_install 17 = .ok (.iload_n 2, 1) := by decide +kernel
theorem dX5_install_18 : decode cX5_install 18 = .ok (.sipush 1000, 3) := by decide +kernel
theorem dX5_install_21 : decode cX5_install 21 = .ok (.if_icmp .le 5, 3) := by decide +kernel
theorem dX5_install_24 : decode cX5_install 24 = .ok (.iconst (-1), 1) := by decide +kernel
theorem dX5_install_25 : decode cX5_install 25 = .ok (.ireturn, 1) := by decide +kernel
theorem dX5_install_26 : decode cX5_install 26 = .ok (.iconst 0, 1) := by decide +kernel
theorem dX5_install_27 : decode cX5_install 27 = .ok (.istore_n 3, 1) := by decide +kernel
theorem dX5_install_28 : decode cX5_install 28 = .ok (.iload_n 3, 1) := by decide +kernel
theorem dX5_install_29 : decode cX5_install 29 = .ok (.bipush 8, 2) := by decide +kernel
theorem dX5_install_31 : decode cX5_install 31 = .ok (.if_icmp .ge 19, 3) := by decide +kernel
theorem dX5_install_34 : decode cX5_install 34 = .ok (.aload_n 0, 1) := by decide +kernel
theorem dX5_install_35 : decode cX5_install 35 = .ok (.getfield 12, 3) := by decide +kernel
theorem dX5_install_38 : decode cX5_install 38 = .ok (.iload_n 3, 1) := by decide +kernel
theorem dX5_install_39 : decode cX5_install 39 = .ok (.aaload, 1) := by decide +kernel
theorem dX5_install_40 : decode cX5_install 40 = .ok (.iconst 0, 1) := by decide +kernel
theorem dX5_install_41 : decode cX5_install 41 = .ok (.putfield 24, 3) := by decide +kernel
theorem dX5_install_44 : decode cX5_install 44 = .ok (.iinc 3 1, 3) := by decide +kernel
theorem dX5_install_47 : decode cX5_install 47 = .ok (.goto (-19), 3) := by decide +kernel
theorem dX5_install_50 : decode cX5_install 50 = .ok (.aload_n 0, 1) := by decide +kernel
theorem dX5_install_51 : decode cX5_install 51 = .ok (.iload_n 2, 1) := by decide +kernel
theorem dX5_install_52 : decode cX5_install 52 = .ok (.putfield 16, 3) := by decide +kernel
theorem dX5_install_55 : decode cX5_install 55 = .ok (.aload_n 0, 1) := by decide +kernel
theorem dX5_install_56 : decode cX5_install 56 = .ok (.bipush 7, 2) := by decide +kernel
theorem dX5_install_58 : decode cX5_install 58 = .ok (.putfield 20, 3) := by decide +kernel
theorem dX5_install_61 : decode cX5_install 61 = .ok (.aload_n 0, 1) := by decide +kernel
theorem dX5_install_62 : decode cX5_install 62 = .ok (.iconst 0, 1) := by decide +kernel
theorem dX5_install_63 : decode cX5_install 63 = .ok (.putfield 28, 3) := by decide +kernel
theorem dX5_install_66 : decode cX5_install 66 = .ok (.aload_n 0, 1) := by decide +kernel
theorem dX5_install_67 : decode cX5_install 67 = .ok (.iconst 0, 1) := by decide +kernel
theorem dX5_install_68 : decode cX5_install 68 = .ok (.putfield 31, 3) := by decide +kernel
theorem dX5_install_71 : decode cX5_install 71 = .ok (.iconst 0, 1) := by decide +kernel
theorem dX5_install_72 : decode cX5_install 72 = .ok (.ireturn, 1) := by decide +kernel
theorem dX5_of_0 : decode cX5_of 0 = .ok (.iload_n 1, 1) := by decide +kernel
theorem dX5_of_1 : decode cX5_of 1 = .ok (.ifCond .lt 30, 3) := by decide +kernel
theorem dX5_of_4 : decode cX5_of 4 = .ok (.iload_n 1, 1) := by decide +kernel
theorem dX5_of_5 : decode cX5_of 5 = .ok (.bipush 8, 2) := by decide +kernel
theorem dX5_of_7 : decode cX5_of 7 = .ok (.if_icmp .ge 24, 3) := by decide +kernel
theorem dX5_of_10 : decode cX5_of 10 = .ok (.aload_n 0, 1) := by decide +kernel
theorem dX5_of_11 : decode cX5_of 11 = .ok (.getfield 12, 3) := by decide +kernel
theorem dX5_of_14 : decode cX5_of 14 = .ok (.iload_n 1, 1) := by decide +kernel
theorem dX5_of_15 : decode cX5_of 15 = .ok (.aaload, 1) := by decide +kernel
theorem dX5_of_16 : decode cX5_of 16 = .ok (.getfield 24, 3) := by decide +kernel
theorem dX5_of_19 : decode cX5_of 19 = .ok (.ifCond .eq 12, 3) := by decide +kernel
theorem dX5_of_22 : decode cX5_of 22 = .ok (.aload_n 0, 1) := by decide +kernel
theorem dX5_of_23 : decode cX5_of 23 = .ok (.getfield 12, 3) := by decide +kernel
theorem dX5_of_26 : decode cX5_of 26 = .ok (.iload_n 1, 1) := by decide +kernel
theorem dX5_of_27 : decode cX5_of 27 = .ok (.aaload, 1) := by decide +kernel
theorem dX5_of_28 : decode cX5_of 28 = .ok (.goto 4, 3) := by decide +kernel
theorem dX5_of_31 : decode cX5_of 31 = .ok (.aconst_null, 1) := by decide +kernel
theorem dX5_of_32 : decode cX5_of 32 = .ok (.areturn, 1) := by decide +kernel
theorem dX5_free_0 : decode cX5_free 0 = .ok (.iconst 0, 1) := by decide +kernel
theorem dX5_free_1 : decode cX5_free 1 = .ok (.istore_n 1, 1) := by decide +kernel
theorem dX5_free_2 : decode cX5_free 2 = .ok (.iload_n 1, 1) := by decide +kernel
theorem dX5_free_3 : decode cX5_free 3 = .ok (.bipush 8, 2) := by decide +kernel
theorem dX5_free_5 : decode cX5_free 5 = .ok (.if_icmp .ge 21, 3) := by decide +kernel
theorem dX5_free_8 : decode cX5_free 8 = .ok (.aload_n 0, 1) := by decide +kernel
theorem dX5_free_9 : decode cX5_free 9 = .ok (.getfield 12, 3) := by decide +kernel
theorem dX5_free_12 : decode cX5_free 12 = .ok (.iload_n 1, 1) := by decide +kernel
theorem dX5_free_13 : decode cX5_free 13 = .ok (.aaload, 1) := by decide +kernel
theorem dX5_free_14 : decode cX5_free 14 = .ok (.getfield 24, 3) := by decide +kernel
theorem dX5_free_17 : decode cX5_free 17 = .ok (.ifCond .eq 9, 3) := by decide +kernel
theorem dX5_free_20 : decode cX5_free 20 = .ok (.iinc 1 1, 3) := by decide +kernel
theorem dX5_free_23 : decode cX5_free 23 = .ok (.goto (-21), 3) := by decide +kernel
theorem dX5_free_26 : decode cX5_free 26 = .ok (.iload_n 1, 1) := by decide +kernel
theorem dX5_free_27 : decode cX5_free 27 = .ok (.bipush 8, 2) := by decide +kernel
theorem dX5_free_29 : decode cX5_free 29 = .ok (.if_icmp .ne 8, 3) := by decide +kernel
theorem dX5_free_32 : decode cX5_free 32 = .ok (.bipush (-12), 2) := by decide +kernel
theorem dX5_free_34 : decode cX5_free 34 = .ok (.goto 4, 3) := by decide +kernel
theorem dX5_free_37 : decode cX5_free 37 = .ok (.iload_n 1, 1) := by decide +kernel
theorem dX5_free_38 : decode cX5_free 38 = .ok (.ireturn, 1) := by decide +kernel
theorem dX5_guest_0 : decode cX5_guest 0 = .ok (.iload_n 1, 1) := by decide +kernel
theorem dX5_guest_1 : decode cX5_guest 1 = .ok (.iconst 1, 1) := by decide +kernel
theorem dX5_guest_2 : decode cX5_guest 2 = .ok (.if_icmp .lt 9, 3) := by decide +kernel
theorem dX5_guest_5 : decode cX5_guest 5 = .ok (.iload_n 1, 1) := by decide +kernel
theorem dX5_guest_6 : decode cX5_guest 6 = .ok (.bipush 64, 2) := by decide +kernel
theorem dX5_guest_8 : decode cX5_guest 8 = .ok (.if_icmp .le 5, 3) := by decide +kernel
theorem dX5_guest_11 : decode cX5_guest 11 = .ok (.iconst (-1), 1) := by decide +kernel
theorem dX5_guest_12 : decode cX5_guest 12 = .ok (.ireturn, 1) := by decide +kernel
theorem dX5_guest_13 : decode cX5_guest 13 = .ok (.aload_n 0, 1) := by decide +kernel
theorem dX5_guest_14 : decode cX5_guest 14 = .ok (.invokevirtual 34, 3) := by decide +kernel
theorem dX5_guest_17 : decode cX5_guest 17 = .ok (.istore_n 2, 1) := by decide +kernel
theorem dX5_guest_18 : decode cX5_guest 18 = .ok (.iload_n 2, 1) := by decide +kernel
theorem dX5_guest_19 : decode cX5_guest 19 = .ok (.ifCond .lt 13, 3) := by decide +kernel
theorem dX5_guest_22 : decode cX5_guest 22 = .ok (.aload_n 0, 1) := by decide +kernel
theorem dX5_guest_23 : decode cX5_guest 23 = .ok (.getfield 12, 3) := by decide +kernel
theorem dX5_guest_26 : decode cX5_guest 26 = .ok (.iload_n 2, 1) := by decide +kernel
theorem dX5_guest_27 : decode cX5_guest 27 = .ok (.aaload, 1) := by decide +kernel
theorem dX5_guest_28 : decode cX5_guest 28 = .ok (.iload_n 1, 1) := by decide +kernel
theorem dX5_guest_29 : decode cX5_guest 29 = .ok (.invokevirtual 38, 3) := by decide +kernel
theorem dX5_guest_32 : decode cX5_guest 32 = .ok (.iload_n 2, 1) := by decide +kernel
theorem dX5_guest_33 : decode cX5_guest 33 = .ok (.ireturn, 1) := by decide +kernel
theorem dX5_poke_0 : decode cX5_poke 0 = .ok (.aload_n 0, 1) := by decide +kernel
theorem dX5_poke_1 : decode cX5_poke 1 = .ok (.iload_n 1, 1) := by decide +kernel
theorem dX5_poke_2 : decode cX5_poke 2 = .ok (.invokevirtual 42, 3) := by decide +kernel
theorem dX5_poke_5 : decode cX5_poke 5 = .ok (.astore 4, 2) := by decide +kernel
theorem dX5_poke_7 : decode cX5_poke 7 = .ok (.aload 4, 2) := by decide +kernel
theorem dX5_poke_9 : decode cX5_poke 9 = .ok (.ifnonnull 6, 3) := by decide +kernel
theorem dX5_poke_12 : decode cX5_poke 12 = .ok (.bipush (-14), 2) := by decide +kernel
theorem dX5_poke_14 : decode cX5_poke 14 = .ok (.ireturn, 1) := by decide +kernel
theorem dX5_poke_15 : decode cX5_poke 15 = .ok (.aload 4, 2) := by decide +kernel
theorem dX5_poke_17 : decode cX5_poke 17 = .ok (.getfield 46, 3) := by decide +kernel
theorem dX5_poke_20 : decode cX5_poke 20 = .ok (.ifCond .eq 5, 3) := by decide +kernel
theorem dX5_poke_23 : decode cX5_poke 23 = .ok (.iconst (-1), 1) := by decide +kernel
theorem dX5_poke_24 : decode cX5_poke 24 = .ok (.ireturn, 1) := by decide +kernel
theorem dX5_poke_25 : decode cX5_poke 25 = .ok (.aload 4, 2) := by decide +kernel
theorem dX5_poke_27 : decode cX5_poke 27 = .ok (.iload_n 2, 1) := by decide +kernel
theorem dX5_poke_28 : decode cX5_poke 28 = .ok (.invokevirtual 49, 3) := by decide +kernel
theorem dX5_poke_31 : decode cX5_poke 31 = .ok (.ifCond .ne 6, 3) := by decide +kernel
theorem dX5_poke_34 : decode cX5_poke 34 = .ok (.bipush (-2), 2) := by decide +kernel
theorem dX5_poke_36 : decode cX5_poke 36 = .ok (.ireturn, 1) := by decide +kernel
theorem dX5_poke_37 : decode cX5_poke 37 = .ok (.aload 4, 2) := by decide +kernel
theorem dX5_poke_39 : decode cX5_poke 39 = .ok (.getfield 53, 3) := by decide +kernel
theorem dX5_poke_42 : decode cX5_poke 42 = .ok (.iload_n 2, 1) := by decide +kernel
theorem dX5_poke_43 : decode cX5_poke 43 = .ok (.iload_n 3, 1) := by decide +kernel
theorem dX5_poke_44 : decode cX5_poke 44 = .ok (.iastore, 1) := by decide +kernel
theorem dX5_poke_45 : decode cX5_poke 45 = .ok (.iconst 0, 1) := by decide +kernel
theorem dX5_poke_46 : decode cX5_poke 46 = .ok (.ireturn, 1) := by decide +kernel
theorem dX5_pokeDisk_0 : decode cX5_pokeDisk 0 = .ok (.aload_n 0, 1) := by decide +kernel
theorem dX5_pokeDisk_1 : decode cX5_pokeDisk 1 = .ok (.iload_n 1, 1) := by decide +kernel
theorem dX5_pokeDisk_2 : decode cX5_pokeDisk 2 = .ok (.invokevirtual 42, 3) := by decide +kernel
theorem dX5_pokeDisk_5 : decode cX5_pokeDisk 5 = .ok (.astore 4, 2) := by decide +kernel
theorem dX5_pokeDisk_7 : decode cX5_pokeDisk 7 = .ok (.aload 4, 2) := by decide +kernel
theorem dX5_pokeDisk_9 : decode cX5_pokeDisk 9 = .ok (.ifnonnull 6, 3) := by decide +kernel
theorem dX5_pokeDisk_12 : decode cX5_pokeDisk 12 = .ok (.bipush (-14), 2) := by decide +kernel
theorem dX5_pokeDisk_14 : decode cX5_pokeDisk 14 = .ok (.ireturn, 1) := by decide +kernel
theorem dX5_pokeDisk_15 : decode cX5_pokeDisk 15 = .ok (.aload 4, 2) := by decide +kernel
theorem dX5_pokeDisk_17 : decode cX5_pokeDisk 17 = .ok (.getfield 46, 3) := by decide +kernel
theorem dX5_pokeDisk_20 : decode cX5_pokeDisk 20 = .ok (.ifCond .eq 5, 3) := by decide +kernel
theorem dX5_pokeDisk_23 : decode cX5_pokeDisk 23 = .ok (.iconst (-1), 1) := by decide +kernel
theorem dX5_pokeDisk_24 : decode cX5_pokeDisk 24 = .ok (.ireturn, 1) := by decide +kernel
theorem dX5_pokeDisk_25 : decode cX5_pokeDisk 25 = .ok (.iload_n 2, 1) := by decide +kernel
theorem dX5_pokeDisk_26 : decode cX5_pokeDisk 26 = .ok (.ifCond .lt 10, 3) := by decide +kernel
theorem dX5_pokeDisk_29 : decode cX5_pokeDisk 29 = .ok (.iload_n 2, 1) := by decide +kernel
theorem dX5_pokeDisk_30 : decode cX5_pokeDisk 30 = .ok (.sipush 1024, 3) := by decide +kernel
theorem dX5_pokeDisk_33 : decode cX5_pokeDisk 33 = .ok (.if_icmp .lt 6, 3) := by decide +kernel
theorem dX5_pokeDisk_36 : decode cX5_pokeDisk 36 = .ok (.bipush (-2), 2) := by decide +kernel
theorem dX5_pokeDisk_38 : decode cX5_pokeDisk 38 = .ok (.ireturn, 1) := by decide +kernel
theorem dX5_pokeDisk_39 : decode cX5_pokeDisk 39 = .ok (.aload 4, 2) := by decide +kernel
theorem dX5_pokeDisk_41 : decode cX5_pokeDisk 41 = .ok (.getfield 57, 3) := by decide +kernel
theorem dX5_pokeDisk_44 : decode cX5_pokeDisk 44 = .ok (.iload_n 2, 1) := by decide +kernel
theorem dX5_pokeDisk_45 : decode cX5_pokeDisk 45 = .ok (.iload_n 3, 1) := by decide +kernel
theorem dX5_pokeDisk_46 : decode cX5_pokeDisk 46 = .ok (.iastore, 1) := by decide +kernel
theorem dX5_pokeDisk_47 : decode cX5_pokeDisk 47 = .ok (.iconst 0, 1) := by decide +kernel
theorem dX5_pokeDisk_48 : decode cX5_pokeDisk 48 = .ok (.ireturn, 1) := by decide +kernel
theorem dX5_start_0 : decode cX5_start 0 = .ok (.aload_n 0, 1) := by decide +kernel
theorem dX5_start_1 : decode cX5_start 1 = .ok (.iload_n 1, 1) := by decide +kernel
theorem dX5_start_2 : decode cX5_start 2 = .ok (.invokevirtual 42, 3) := by decide +kernel
theorem dX5_start_5 : decode cX5_start 5 = .ok (.astore_n 3, 1) := by decide +kernel
theorem dX5_start_6 : decode cX5_start 6 = .ok (.aload_n 3, 1) := by decide +kernel
theorem dX5_start_7 : decode cX5_start 7 = .ok (.ifnonnull 6, 3) := by decide +kernel
theorem dX5_start_10 : decode cX5_start 10 = .ok (.bipush (-14), 2) := by decide +kernel
theorem dX5_start_12 : decode cX5_start 12 = .ok (.ireturn, 1) := by decide +kernel
theorem dX5_start_13 : decode cX5_start 13 = .ok (.aload_n 3, 1) := by decide +kernel
theorem dX5_start_14 : decode cX5_start 14 = .ok (.getfield 46, 3) := by decide +kernel
theorem dX5_start_17 : decode cX5_start 17 = .ok (.ifCond .eq 5, 3) := by decide +kernel
theorem dX5_start_20 : decode cX5_start 20 = .ok (.iconst (-1), 1) := by decide +kernel
theorem dX5_start_21 : decode cX5_start 21 = .ok (.ireturn, 1) := by decide +kernel
theorem dX5_start_22 : decode cX5_start 22 = .ok (.aload_n 3, 1) := by decide +kernel
theorem dX5_start_23 : decode cX5_start 23 = .ok (.iload_n 2, 1) := by decide +kernel
theorem dX5_start_24 : decode cX5_start 24 = .ok (.invokevirtual 60, 3) := by decide +kernel
theorem dX5_start_27 : decode cX5_start 27 = .ok (.iconst 0, 1) := by decide +kernel
theorem dX5_start_28 : decode cX5_start 28 = .ok (.ireturn, 1) := by decide +kernel
theorem dX5_stop_0 : decode cX5_stop 0 = .ok (.aload_n 0, 1) := by decide +kernel
theorem dX5_stop_1 : decode cX5_stop 1 = .ok (.iload_n 1, 1) := by decide +kernel
theorem dX5_stop_2 : decode cX5_stop 2 = .ok (.invokevirtual 42, 3) := by decide +kernel
theorem dX5_stop_5 : decode cX5_stop 5 = .ok (.ifnonnull 6, 3) := by decide +kernel
theorem dX5_stop_8 : decode cX5_stop 8 = .ok (.bipush (-14), 2) := by decide +kernel
theorem dX5_stop_10 : decode cX5_stop 10 = .ok (.ireturn, 1) := by decide +kernel
theorem dX5_stop_11 : decode cX5_stop 11 = .ok (.aload_n 0, 1) := by decide +kernel
theorem dX5_stop_12 : decode cX5_stop 12 = .ok (.iload_n 1, 1) := by decide +kernel
theorem dX5_stop_13 : decode cX5_stop 13 = .ok (.invokevirtual 42, 3) := by decide +kernel
theorem dX5_stop_16 : decode cX5_stop 16 = .ok (.iconst 0, 1) := by decide +kernel
theorem dX5_stop_17 : decode cX5_stop 17 = .ok (.putfield 46, 3) := by decide +kernel
theorem dX5_stop_20 : decode cX5_stop 20 = .ok (.iconst 0, 1) := by decide +kernel
theorem dX5_stop_21 : decode cX5_stop 21 = .ok (.ireturn, 1) := by decide +kernel
theorem dX5_input_0 : decode cX5_input 0 = .ok (.aload_n 0, 1) := by decide +kernel
theorem dX5_input_1 : decode cX5_input 1 = .ok (.iload_n 1, 1) := by decide +kernel
theorem dX5_input_2 : decode cX5_input 2 = .ok (.invokevirtual 42, 3) := by decide +kernel
theorem dX5_input_5 : decode cX5_input 5 = .ok (.astore_n 3, 1) := by decide +kernel
theorem dX5_input_6 : decode cX5_input 6 = .ok (.aload_n 3, 1) := by decide +kernel
theorem dX5_input_7 : decode cX5_input 7 = .ok (.ifnonnull 6, 3) := by decide +kernel
theorem dX5_input_10 : decode cX5_input 10 = .ok (.bipush (-14), 2) := by decide +kernel
theorem dX5_input_12 : decode cX5_input 12 = .ok (.ireturn, 1) := by decide +kernel
theorem dX5_input_13 : decode cX5_input 13 = .ok (.aload_n 3, 1) := by decide +kernel
theorem dX5_input_14 : decode cX5_input 14 = .ok (.getfield 63, 3) := by decide +kernel
theorem dX5_input_17 : decode cX5_input 17 = .ok (.bipush 64, 2) := by decide +kernel
theorem dX5_input_19 : decode cX5_input 19 = .ok (.if_icmp .ne 6, 3) := by decide +kernel
theorem dX5_input_22 : decode cX5_input 22 = .ok (.bipush (-12), 2) := by decide +kernel
theorem dX5_input_24 : decode cX5_input 24 = .ok (.ireturn, 1) := by decide +kernel
theorem dX5_input_25 : decode cX5_input 25 = .ok (.aload_n 3, 1) := by decide +kernel
theorem dX5_input_26 : decode cX5_input 26 = .ok (.getfield 66, 3) := by decide +kernel
theorem dX5_input_29 : decode cX5_input 29 = .ok (.aload_n 3, 1) := by decide +kernel
theorem dX5_input_30 : decode cX5_input 30 = .ok (.getfield 63, 3) := by decide +kernel
theorem dX5_input_33 : decode cX5_input 33 = .ok (.iload_n 2, 1) := by decide +kernel
theorem dX5_input_34 : decode cX5_input 34 = .ok (.iastore, 1) := by decide +kernel
theorem dX5_input_35 : decode cX5_input 35 = .ok (.aload_n 3, 1) := by decide +kernel
theorem dX5_input_36 : decode cX5_input 36 = .ok (.dup, 1) := by decide +kernel
theorem dX5_input_37 : decode cX5_input 37 = .ok (.getfield 63, 3) := by decide +kernel
theorem dX5_input_40 : decode cX5_input 40 = .ok (.iconst 1, 1) := by decide +kernel
theorem dX5_input_41 : decode cX5_input 41 = .ok (.iadd, 1) := by decide +kernel
theorem dX5_input_42 : decode cX5_input 42 = .ok (.putfield 63, 3) := by decide +kernel
theorem dX5_input_45 : decode cX5_input 45 = .ok (.aload_n 3, 1) := by decide +kernel
theorem dX5_input_46 : decode cX5_input 46 = .ok (.getfield 46, 3) := by decide +kernel
theorem dX5_input_49 : decode cX5_input 49 = .ok (.iconst 2, 1) := by decide +kernel
theorem dX5_input_50 : decode cX5_input 50 = .ok (.if_icmp .ne 8, 3) := by decide +kernel
theorem dX5_input_53 : decode cX5_input 53 = .ok (.aload_n 3, 1) := by decide +kernel
theorem dX5_input_54 : decode cX5_input 54 = .ok (.iconst 1, 1) := by decide +kernel
theorem dX5_input_55 : decode cX5_input 55 = .ok (.putfield 46, 3) := by decide +kernel
theorem dX5_input_58 : decode cX5_input 58 = .ok (.iconst 0, 1) := by decide +kernel
theorem dX5_input_59 : decode cX5_input 59 = .ok (.ireturn, 1) := by decide +kernel
theorem dX5_copy_0 : decode cX5_copy 0 = .ok (.aload_n 0, 1) := by decide +kernel
theorem dX5_copy_1 : decode cX5_copy 1 = .ok (.iload_n 1, 1) := by decide +kernel
theorem dX5_copy_2 : decode cX5_copy 2 = .ok (.invokevirtual 42, 3) := by decide +kernel
theorem dX5_copy_5 : decode cX5_copy 5 = .ok (.astore_n 2, 1) := by decide +kernel
theorem dX5_copy_6 : decode cX5_copy 6 = .ok (.aload_n 2, 1) := by decide +kernel
theorem dX5_copy_7 : decode cX5_copy 7 = .ok (.ifnonnull 6, 3) := by decide +kernel
theorem dX5_copy_10 : decode cX5_copy 10 = .ok (.bipush (-14), 2) := by decide +kernel
theorem dX5_copy_12 : decode cX5_copy 12 = .ok (.ireturn, 1) := by decide +kernel
theorem dX5_copy_13 : decode cX5_copy 13 = .ok (.aload_n 0, 1) := by decide +kernel
theorem dX5_copy_14 : decode cX5_copy 14 = .ok (.invokevirtual 34, 3) := by decide +kernel
theorem dX5_copy_17 : decode cX5_copy 17 = .ok (.istore_n 3, 1) := by decide +kernel
theorem dX5_copy_18 : decode cX5_copy 18 = .ok (.iload_n 3, 1) := by decide +kernel
theorem dX5_copy_19 : decode cX5_copy 19 = .ok (.ifCond .ge 5, 3) := by decide +kernel
theorem dX5_copy_22 : decode cX5_copy 22 = .ok (.iload_n 3, 1) := by decide +kernel
theorem dX5_copy_23 : decode cX5_copy 23 = .ok (.ireturn, 1) := by decide +kernel
theorem dX5_copy_24 : decode cX5_copy 24 = .ok (.aload_n 0, 1) := by decide +kernel
theorem dX5_copy_25 : decode cX5_copy 25 = .ok (.getfield 12, 3) := by decide +kernel
theorem dX5_copy_28 : decode cX5_copy 28 = .ok (.iload_n 3, 1) := by decide +kernel
theorem dX5_copy_29 : decode cX5_copy 29 = .ok (.aaload, 1) := by decide +kernel
theorem dX5_copy_30 : decode cX5_copy 30 = .ok (.aload_n 2, 1) := by decide +kernel
theorem dX5_copy_31 : decode cX5_copy 31 = .ok (.invokevirtual 69, 3) := by decide +kernel
theorem dX5_copy_34 : decode cX5_copy 34 = .ok (.iload_n 3, 1) := by decide +kernel
theorem dX5_copy_35 : decode cX5_copy 35 = .ok (.ireturn, 1) := by decide +kernel
theorem dX5_drop_0 : decode cX5_drop 0 = .ok (.aload_n 0, 1) := by decide +kernel
theorem dX5_drop_1 : decode cX5_drop 1 = .ok (.iload_n 1, 1) := by decide +kernel
theorem dX5_drop_2 : decode cX5_drop 2 = .ok (.invokevirtual 42, 3) := by decide +kernel
theorem dX5_drop_5 : decode cX5_drop 5 = .ok (.ifnonnull 6, 3) := by decide +kernel
theorem dX5_drop_8 : decode cX5_drop 8 = .ok (.bipush (-14), 2) := by decide +kernel
theorem dX5_drop_10 : decode cX5_drop 10 = .ok (.ireturn, 1) := by decide +kernel
theorem dX5_drop_11 : decode cX5_drop 11 = .ok (.aload_n 0, 1) := by decide +kernel
theorem dX5_drop_12 : decode cX5_drop 12 = .ok (.getfield 12, 3) := by decide +kernel
theorem dX5_drop_15 : decode cX5_drop 15 = .ok (.iload_n 1, 1) := by decide +kernel
theorem dX5_drop_16 : decode cX5_drop 16 = .ok (.aaload, 1) := by decide +kernel
theorem dX5_drop_17 : decode cX5_drop 17 = .ok (.iconst 0, 1) := by decide +kernel
theorem dX5_drop_18 : decode cX5_drop 18 = .ok (.putfield 24, 3) := by decide +kernel
theorem dX5_drop_21 : decode cX5_drop 21 = .ok (.iconst 0, 1) := by decide +kernel
theorem dX5_drop_22 : decode cX5_drop 22 = .ok (.ireturn, 1) := by decide +kernel
theorem dX5_isRunning_0 : decode cX5_isRunning 0 = .ok (.aload_n 0, 1) := by decide +kernel
theorem dX5_isRunning_1 : decode cX5_isRunning 1 = .ok (.getfield 12, 3) := by decide +kernel
theorem dX5_isRunning_4 : decode cX5_isRunning 4 = .ok (.iload_n 1, 1) := by decide +kernel
theorem dX5_isRunning_5 : decode cX5_isRunning 5 = .ok (.aaload, 1) := by decide +kernel
theorem dX5_isRunning_6 : decode cX5_isRunning 6 = .ok (.getfield 24, 3) := by decide +kernel
theorem dX5_isRunning_9 : decode cX5_isRunning 9 = .ok (.ifCond .eq 20, 3) := by decide +kernel
theorem dX5_isRunning_12 : decode cX5_isRunning 12 = .ok (.aload_n 0, 1) := by decide +kernel
theorem dX5_isRunning_13 : decode cX5_isRunning 13 = .ok (.getfield 12, 3) := by decide +kernel
theorem dX5_isRunning_16 : decode cX5_isRunning 16 = .ok (.iload_n 1, 1) := by decide +kernel
theorem dX5_isRunning_17 : decode cX5_isRunning 17 = .ok (.aaload, 1) := by decide +kernel
theorem dX5_isRunning_18 : decode cX5_isRunning 18 = .ok (.getfield 46, 3) := by decide +kernel
theorem dX5_isRunning_21 : decode cX5_isRunning 21 = .ok (.iconst 1, 1) := by decide +kernel
theorem dX5_isRunning_22 : decode cX5_isRunning 22 = .ok (.if_icmp .ne 7, 3) := by decide +kernel
theorem dX5_isRunning_25 : decode cX5_isRunning 25 = .ok (.iconst 1, 1) := by decide +kernel
theorem dX5_isRunning_26 : decode cX5_isRunning 26 = .ok (.goto 4, 3) := by decide +kernel
theorem dX5_isRunning_29 : decode cX5_isRunning 29 = .ok (.iconst 0, 1) := by decide +kernel
theorem dX5_isRunning_30 : decode cX5_isRunning 30 = .ok (.ireturn, 1) := by decide +kernel
theorem dX5_turn_0 : decode cX5_turn 0 = .ok (.aload_n 0, 1) := by decide +kernel
theorem dX5_turn_1 : decode cX5_turn 1 = .ok (.getfield 28, 3) := by decide +kernel
theorem dX5_turn_4 : decode cX5_turn 4 = .ok (.ifCond .eq 14, 3) := by decide +kernel
theorem dX5_turn_7 : decode cX5_turn 7 = .ok (.aload_n 0, 1) := by decide +kernel
theorem dX5_turn_8 : decode cX5_turn 8 = .ok (.aload_n 0, 1) := by decide +kernel
theorem dX5_turn_9 : decode cX5_turn 9 = .ok (.getfield 20, 3) := by decide +kernel
theorem dX5_turn_12 : decode cX5_turn 12 = .ok (.invokevirtual 73, 3) := by decide +kernel
theorem dX5_turn_15 : decode cX5_turn 15 = .ok (.ifCond .ne 57, 3) := by decide +kernel
theorem dX5_turn_18 : decode cX5_turn 18 = .ok (.aload_n 0, 1) := by decide +kernel
theorem dX5_turn_19 : decode cX5_turn 19 = .ok (.getfield 20, 3) := by decide +kernel
theorem dX5_turn_22 : decode cX5_turn 22 = .ok (.istore_n 1, 1) := by decide +kernel
theorem dX5_turn_23 : decode cX5_turn 23 = .ok (.iconst 0, 1) := by decide +kernel
theorem dX5_turn_24 : decode cX5_turn 24 = .ok (.istore_n 2, 1) := by decide +kernel
theorem dX5_turn_25 : decode cX5_turn 25 = .ok (.iload_n 1, 1) := by decide +kernel
theorem dX5_turn_26 : decode cX5_turn 26 = .ok (.iconst 1, 1) := by decide +kernel
theorem dX5_turn_27 : decode cX5_turn 27 = .ok (.iadd, 1) := by decide +kernel
theorem dX5_turn_28 : decode cX5_turn 28 = .ok (.bipush 8, 2) := by decide +kernel
theorem dX5_turn_30 : decode cX5_turn 30 = .ok (.irem, 1) := by decide +kernel
theorem dX5_turn_31 : decode cX5_turn 31 = .ok (.istore_n 1, 1) := by decide +kernel
theorem dX5_turn_32 : decode cX5_turn 32 = .ok (.iinc 2 1, 3) := by decide +kernel
theorem dX5_turn_35 : decode cX5_turn 35 = .ok (.iload_n 2, 1) := by decide +kernel
theorem dX5_turn_36 : decode cX5_turn 36 = .ok (.bipush 8, 2) := by decide +kernel
theorem dX5_turn_38 : decode cX5_turn 38 = .ok (.if_icmp .ge 11, 3) := by decide +kernel
theorem dX5_turn_41 : decode cX5_turn 41 = .ok (.aload_n 0, 1) := by decide +kernel
theorem dX5_turn_42 : decode cX5_turn 42 = .ok (.iload_n 1, 1) := by decide +kernel
theorem dX5_turn_43 : decode cX5_turn 43 = .ok (.invokevirtual 73, 3) := by decide +kernel
theorem dX5_turn_46 : decode cX5_turn 46 = .ok (.ifCond .eq (-21), 3) := by decide +kernel
theorem dX5_turn_49 : decode cX5_turn 49 = .ok (.aload_n 0, 1) := by decide +kernel
theorem dX5_turn_50 : decode cX5_turn 50 = .ok (.iload_n 1, 1) := by decide +kernel
theorem dX5_turn_51 : decode cX5_turn 51 = .ok (.invokevirtual 73, 3) := by decide +kernel
theorem dX5_turn_54 : decode cX5_turn 54 = .ok (.ifCond .ne 5, 3) := by decide +kernel
theorem dX5_turn_57 : decode cX5_turn 57 = .ok (.iconst 0, 1) := by decide +kernel
theorem dX5_turn_58 : decode cX5_turn 58 = .ok (.ireturn, 1) := by decide +kernel
theorem dX5_turn_59 : decode cX5_turn 59 = .ok (.aload_n 0, 1) := by decide +kernel
theorem dX5_turn_60 : decode cX5_turn 60 = .ok (.iload_n 1, 1) := by decide +kernel
theorem dX5_turn_61 : decode cX5_turn 61 = .ok (.putfield 20, 3) := by decide +kernel
theorem dX5_turn_64 : decode cX5_turn 64 = .ok (.aload_n 0, 1) := by decide +kernel
theorem dX5_turn_65 : decode cX5_turn 65 = .ok (.aload_n 0, 1) := by decide +kernel
theorem dX5_turn_66 : decode cX5_turn 66 = .ok (.getfield 16, 3) := by decide +kernel
theorem dX5_turn_69 : decode cX5_turn 69 = .ok (.putfield 28, 3) := by decide +kernel
theorem dX5_turn_72 : decode cX5_turn 72 = .ok (.aload_n 0, 1) := by decide +kernel
theorem dX5_turn_73 : decode cX5_turn 73 = .ok (.getfield 12, 3) := by decide +kernel
theorem dX5_turn_76 : decode cX5_turn 76 = .ok (.aload_n 0, 1) := by decide +kernel
theorem dX5_turn_77 : decode cX5_turn 77 = .ok (.getfield 20, 3) := by decide +kernel
theorem dX5_turn_80 : decode cX5_turn 80 = .ok (.aaload, 1) := by decide +kernel
theorem dX5_turn_81 : decode cX5_turn 81 = .ok (.invokevirtual 76, 3) := by decide +kernel
theorem dX5_turn_84 : decode cX5_turn 84 = .ok (.aload_n 0, 1) := by decide +kernel
theorem dX5_turn_85 : decode cX5_turn 85 = .ok (.dup, 1) := by decide +kernel
theorem dX5_turn_86 : decode cX5_turn 86 = .ok (.getfield 31, 3) := by decide +kernel
theorem dX5_turn_89 : decode cX5_turn 89 = .ok (.iconst 1, 1) := by decide +kernel
theorem dX5_turn_90 : decode cX5_turn 90 = .ok (.iadd, 1) := by decide +kernel
theorem dX5_turn_91 : decode cX5_turn 91 = .ok (.putfield 31, 3) := by decide +kernel
theorem dX5_turn_94 : decode cX5_turn 94 = .ok (.aload_n 0, 1) := by decide +kernel
theorem dX5_turn_95 : decode cX5_turn 95 = .ok (.dup, 1) := by decide +kernel
theorem dX5_turn_96 : decode cX5_turn 96 = .ok (.getfield 28, 3) := by decide +kernel
theorem dX5_turn_99 : decode cX5_turn 99 = .ok (.iconst 1, 1) := by decide +kernel
theorem dX5_turn_100 : decode cX5_turn 100 = .ok (.isub, 1) := by decide +kernel
theorem dX5_turn_101 : decode cX5_turn 101 = .ok (.putfield 28, 3) := by decide +kernel
theorem dX5_turn_104 : decode cX5_turn 104 = .ok (.iconst 1, 1) := by decide +kernel
theorem dX5_turn_105 : decode cX5_turn 105 = .ok (.ireturn, 1) := by decide +kernel
theorem dX5_run_0 : decode cX5_run 0 = .ok (.iload_n 1, 1) := by decide +kernel
theorem dX5_run_1 : decode cX5_run 1 = .ok (.ifCond .lt 10, 3) := by decide +kernel
theorem dX5_run_4 : decode cX5_run 4 = .ok (.iload_n 1, 1) := by decide +kernel
theorem dX5_run_5 : decode cX5_run 5 = .ok (.sipush 2000, 3) := by decide +kernel
theorem dX5_run_8 : decode cX5_run 8 = .ok (.if_icmp .le 5, 3) := by decide +kernel
theorem dX5_run_11 : decode cX5_run 11 = .ok (.iconst (-1), 1) := by decide +kernel
theorem dX5_run_12 : decode cX5_run 12 = .ok (.ireturn, 1) := by decide +kernel
theorem dX5_run_13 : decode cX5_run 13 = .ok (.iconst 0, 1) := by decide +kernel
theorem dX5_run_14 : decode cX5_run 14 = .ok (.istore_n 2, 1) := by decide +kernel
theorem dX5_run_15 : decode cX5_run 15 = .ok (.iload_n 2, 1) := by decide +kernel
theorem dX5_run_16 : decode cX5_run 16 = .ok (.iload_n 1, 1) := by decide +kernel
theorem dX5_run_17 : decode cX5_run 17 = .ok (.if_icmp .ge 16, 3) := by decide +kernel
theorem dX5_run_20 : decode cX5_run 20 = .ok (.aload_n 0, 1) := by decide +kernel
theorem dX5_run_21 : decode cX5_run 21 = .ok (.invokevirtual 79, 3) := by decide +kernel
theorem dX5_run_24 : decode cX5_run 24 = .ok (.ifCond .eq 9, 3) := by decide +kernel
theorem dX5_run_27 : decode cX5_run 27 = .ok (.iinc 2 1, 3) := by decide +kernel
theorem dX5_run_30 : decode cX5_run 30 = .ok (.goto (-15), 3) := by decide +kernel
theorem dX5_run_33 : decode cX5_run 33 = .ok (.iload_n 2, 1) := by decide +kernel
theorem dX5_run_34 : decode cX5_run 34 = .ok (.ireturn, 1) := by decide +kernel
theorem dX5_only_0 : decode cX5_only 0 = .ok (.aload_n 0, 1) := by decide +kernel
theorem dX5_only_1 : decode cX5_only 1 = .ok (.iload_n 1, 1) := by decide +kernel
theorem dX5_only_2 : decode cX5_only 2 = .ok (.invokevirtual 42, 3) := by decide +kernel
theorem dX5_only_5 : decode cX5_only 5 = .ok (.astore_n 3, 1) := by decide +kernel
theorem dX5_only_6 : decode cX5_only 6 = .ok (.aload_n 3, 1) := by decide +kernel
theorem dX5_only_7 : decode cX5_only 7 = .ok (.ifnonnull 6, 3) := by decide +kernel
theorem dX5_only_10 : decode cX5_only 10 = .ok (.bipush (-14), 2) := by decide +kernel
theorem dX5_only_12 : decode cX5_only 12 = .ok (.ireturn, 1) := by decide +kernel
theorem dX5_only_13 : decode cX5_only 13 = .ok (.iload_n 2, 1) := by decide +kernel
theorem dX5_only_14 : decode cX5_only 14 = .ok (.ifCond .lt 10, 3) := by decide +kernel
theorem dX5_only_17 : decode cX5_only 17 = .ok (.iload_n 2, 1) := by decide +kernel
theorem dX5_only_18 : decode cX5_only 18 = .ok (.sipush 2000, 3) := by decide +kernel
theorem dX5_only_21 : decode cX5_only 21 = .ok (.if_icmp .le 5, 3) := by decide +kernel
theorem dX5_only_24 : decode cX5_only 24 = .ok (.iconst (-1), 1) := by decide +kernel
theorem dX5_only_25 : decode cX5_only 25 = .ok (.ireturn, 1) := by decide +kernel
theorem dX5_only_26 : decode cX5_only 26 = .ok (.iconst 0, 1) := by decide +kernel
theorem dX5_only_27 : decode cX5_only 27 = .ok (.istore 4, 2) := by decide +kernel
theorem dX5_only_29 : decode cX5_only 29 = .ok (.iload 4, 2) := by decide +kernel
theorem dX5_only_31 : decode cX5_only 31 = .ok (.iload_n 2, 1) := by decide +kernel
theorem dX5_only_32 : decode cX5_only 32 = .ok (.if_icmp .ge 21, 3) := by decide +kernel
theorem dX5_only_35 : decode cX5_only 35 = .ok (.aload_n 3, 1) := by decide +kernel
theorem dX5_only_36 : decode cX5_only 36 = .ok (.getfield 46, 3) := by decide +kernel
theorem dX5_only_39 : decode cX5_only 39 = .ok (.iconst 1, 1) := by decide +kernel
theorem dX5_only_40 : decode cX5_only 40 = .ok (.if_icmp .ne 13, 3) := by decide +kernel
theorem dX5_only_43 : decode cX5_only 43 = .ok (.aload_n 3, 1) := by decide +kernel
theorem dX5_only_44 : decode cX5_only 44 = .ok (.invokevirtual 76, 3) := by decide +kernel
theorem dX5_only_47 : decode cX5_only 47 = .ok (.iinc 4 1, 3) := by decide +kernel
theorem dX5_only_50 : decode cX5_only 50 = .ok (.goto (-21), 3) := by decide +kernel
theorem dX5_only_53 : decode cX5_only 53 = .ok (.aload_n 0, 1) := by decide +kernel
theorem dX5_only_54 : decode cX5_only 54 = .ok (.dup, 1) := by decide +kernel
theorem dX5_only_55 : decode cX5_only 55 = .ok (.getfield 31, 3) := by decide +kernel
theorem dX5_only_58 : decode cX5_only 58 = .ok (.iload 4, 2) := by decide +kernel
theorem dX5_only_60 : decode cX5_only 60 = .ok (.iadd, 1) := by decide +kernel
theorem dX5_only_61 : decode cX5_only 61 = .ok (.putfield 31, 3) := by decide +kernel
theorem dX5_only_64 : decode cX5_only 64 = .ok (.iload 4, 2) := by decide +kernel
theorem dX5_only_66 : decode cX5_only 66 = .ok (.ireturn, 1) := by decide +kernel
theorem dX5_state_0 : decode cX5_state 0 = .ok (.aload_n 0, 1) := by decide +kernel
theorem dX5_state_1 : decode cX5_state 1 = .ok (.iload_n 1, 1) := by decide +kernel
theorem dX5_state_2 : decode cX5_state 2 = .ok (.invokevirtual 42, 3) := by decide +kernel
theorem dX5_state_5 : decode cX5_state 5 = .ok (.ifnonnull 8, 3) := by decide +kernel
theorem dX5_state_8 : decode cX5_state 8 = .ok (.bipush (-14), 2) := by decide +kernel
theorem dX5_state_10 : decode cX5_state 10 = .ok (.goto 11, 3) := by decide +kernel
theorem dX5_state_13 : decode cX5_state 13 = .ok (.aload_n 0, 1) := by decide +kernel
theorem dX5_state_14 : decode cX5_state 14 = .ok (.iload_n 1, 1) := by decide +kernel
theorem dX5_state_15 : decode cX5_state 15 = .ok (.invokevirtual 42, 3) := by decide +kernel
theorem dX5_state_18 : decode cX5_state 18 = .ok (.getfield 46, 3) := by decide +kernel
theorem dX5_state_21 : decode cX5_state 21 = .ok (.ireturn, 1) := by decide +kernel
theorem dX5_told_0 : decode cX5_told 0 = .ok (.aload_n 0, 1) := by decide +kernel
theorem dX5_told_1 : decode cX5_told 1 = .ok (.iload_n 1, 1) := by decide +kernel
theorem dX5_told_2 : decode cX5_told 2 = .ok (.invokevirtual 42, 3) := by decide +kernel
theorem dX5_told_5 : decode cX5_told 5 = .ok (.astore_n 3, 1) := by decide +kernel
theorem dX5_told_6 : decode cX5_told 6 = .ok (.aload_n 3, 1) := by decide +kernel
theorem dX5_told_7 : decode cX5_told 7 = .ok (.ifnull 13, 3) := by decide +kernel
theorem dX5_told_10 : decode cX5_told 10 = .ok (.iload_n 2, 1) := by decide +kernel
theorem dX5_told_11 : decode cX5_told 11 = .ok (.ifCond .lt 9, 3) := by decide +kernel
theorem dX5_told_14 : decode cX5_told 14 = .ok (.iload_n 2, 1) := by decide +kernel
theorem dX5_told_15 : decode cX5_told 15 = .ok (.bipush 23, 2) := by decide +kernel
theorem dX5_told_17 : decode cX5_told 17 = .ok (.if_icmp .le 5, 3) := by decide +kernel
theorem dX5_told_20 : decode cX5_told 20 = .ok (.iconst 0, 1) := by decide +kernel
theorem dX5_told_21 : decode cX5_told 21 = .ok (.ireturn, 1) := by decide +kernel
theorem dX5_told_22 : decode cX5_told 22 = .ok (.iload_n 2, 1) := by decide +kernel
theorem dX5_told_23 : decode cX5_told 23 = .ok (.bipush 8, 2) := by decide +kernel
theorem dX5_told_25 : decode cX5_told 25 = .ok (.if_icmp .ge 10, 3) := by decide +kernel
theorem dX5_told_28 : decode cX5_told 28 = .ok (.aload_n 3, 1) := by decide +kernel
theorem dX5_told_29 : decode cX5_told 29 = .ok (.getfield 83, 3) := by decide +kernel
theorem dX5_told_32 : decode cX5_told 32 = .ok (.iload_n 2, 1) := by decide +kernel
theorem dX5_told_33 : decode cX5_told 33 = .ok (.iaload, 1) := by decide +kernel
theorem dX5_told_34 : decode cX5_told 34 = .ok (.ireturn, 1) := by decide +kernel
theorem dX5_told_35 : decode cX5_told 35 = .ok (.iload_n 2, 1) := by decide +kernel
theorem dX5_told_36 : decode cX5_told 36 = .ok (.bipush 9, 2) := by decide +kernel
theorem dX5_told_38 : decode cX5_told 38 = .ok (.if_icmp .le 19, 3) := by decide +kernel
theorem dX5_told_41 : decode cX5_told 41 = .ok (.iload_n 2, 1) := by decide +kernel
theorem dX5_told_42 : decode cX5_told 42 = .ok (.bipush 19, 2) := by decide +kernel
theorem dX5_told_44 : decode cX5_told 44 = .ok (.if_icmp .ge 13, 3) := by decide +kernel
theorem dX5_told_47 : decode cX5_told 47 = .ok (.aload_n 3, 1) := by decide +kernel
theorem dX5_told_48 : decode cX5_told 48 = .ok (.getfield 86, 3) := by decide +kernel
theorem dX5_told_51 : decode cX5_told 51 = .ok (.iload_n 2, 1) := by decide +kernel
theorem dX5_told_52 : decode cX5_told 52 = .ok (.bipush 10, 2) := by decide +kernel
theorem dX5_told_54 : decode cX5_told 54 = .ok (.isub, 1) := by decide +kernel
theorem dX5_told_55 : decode cX5_told 55 = .ok (.iaload, 1) := by decide +kernel
theorem dX5_told_56 : decode cX5_told 56 = .ok (.ireturn, 1) := by decide +kernel
theorem dX5_told_57 : decode cX5_told 57 = .ok (.iload_n 2, 1) := by decide +kernel
theorem dX5_told_58 : decode cX5_told 58 = .ok (.tableswitch 104 8 22 #[74, 79, 104, 104, 104, 104, 104, 104, 104, 104, 104, 84, 89, 94, 99], 74) := by decide +kernel
theorem dX5_told_132 : decode cX5_told 132 = .ok (.aload_n 3, 1) := by decide +kernel
theorem dX5_told_133 : decode cX5_told 133 = .ok (.getfield 89, 3) := by decide +kernel
theorem dX5_told_136 : decode cX5_told 136 = .ok (.ireturn, 1) := by decide +kernel
theorem dX5_told_137 : decode cX5_told 137 = .ok (.aload_n 3, 1) := by decide +kernel
theorem dX5_told_138 : decode cX5_told 138 = .ok (.getfield 92, 3) := by decide +kernel
theorem dX5_told_141 : decode cX5_told 141 = .ok (.ireturn, 1) := by decide +kernel
theorem dX5_told_142 : decode cX5_told 142 = .ok (.aload_n 3, 1) := by decide +kernel
theorem dX5_told_143 : decode cX5_told 143 = .ok (.getfield 95, 3) := by decide +kernel
theorem dX5_told_146 : decode cX5_told 146 = .ok (.ireturn, 1) := by decide +kernel
theorem dX5_told_147 : decode cX5_told 147 = .ok (.aload_n 3, 1) := by decide +kernel
theorem dX5_told_148 : decode cX5_told 148 = .ok (.getfield 63, 3) := by decide +kernel
theorem dX5_told_151 : decode cX5_told 151 = .ok (.ireturn, 1) := by decide +kernel
theorem dX5_told_152 : decode cX5_told 152 = .ok (.aload_n 3, 1) := by decide +kernel
theorem dX5_told_153 : decode cX5_told 153 = .ok (.getfield 98, 3) := by decide +kernel
theorem dX5_told_156 : decode cX5_told 156 = .ok (.ireturn, 1) := by decide +kernel
theorem dX5_told_157 : decode cX5_told 157 = .ok (.aload_n 3, 1) := by decide +kernel
theorem dX5_told_158 : decode cX5_told 158 = .ok (.getfield 101, 3) := by decide +kernel
theorem dX5_told_161 : decode cX5_told 161 = .ok (.ireturn, 1) := by decide +kernel
theorem dX5_told_162 : decode cX5_told 162 = .ok (.aload_n 3, 1) := by decide +kernel
theorem dX5_told_163 : decode cX5_told 163 = .ok (.getfield 104, 3) := by decide +kernel
theorem dX5_told_166 : decode cX5_told 166 = .ok (.ireturn, 1) := by decide +kernel
theorem dX5_peek_0 : decode cX5_peek 0 = .ok (.aload_n 0, 1) := by decide +kernel
theorem dX5_peek_1 : decode cX5_peek 1 = .ok (.iload_n 1, 1) := by decide +kernel
theorem dX5_peek_2 : decode cX5_peek 2 = .ok (.invokevirtual 42, 3) := by decide +kernel
theorem dX5_peek_5 : decode cX5_peek 5 = .ok (.ifnull 28, 3) := by decide +kernel
theorem dX5_peek_8 : decode cX5_peek 8 = .ok (.aload_n 0, 1) := by decide +kernel
theorem dX5_peek_9 : decode cX5_peek 9 = .ok (.iload_n 1, 1) := by decide +kernel
theorem dX5_peek_10 : decode cX5_peek 10 = .ok (.invokevirtual 42, 3) := by decide +kernel
theorem dX5_peek_13 : decode cX5_peek 13 = .ok (.iload_n 2, 1) := by decide +kernel
theorem dX5_peek_14 : decode cX5_peek 14 = .ok (.invokevirtual 49, 3) := by decide +kernel
theorem dX5_peek_17 : decode cX5_peek 17 = .ok (.ifCond .eq 16, 3) := by decide +kernel
theorem dX5_peek_20 : decode cX5_peek 20 = .ok (.aload_n 0, 1) := by decide +kernel
theorem dX5_peek_21 : decode cX5_peek 21 = .ok (.iload_n 1, 1) := by decide +kernel
theorem dX5_peek_22 : decode cX5_peek 22 = .ok (.invokevirtual 42, 3) := by decide +kernel
theorem dX5_peek_25 : decode cX5_peek 25 = .ok (.getfield 53, 3) := by decide +kernel
theorem dX5_peek_28 : decode cX5_peek 28 = .ok (.iload_n 2, 1) := by decide +kernel
theorem dX5_peek_29 : decode cX5_peek 29 = .ok (.iaload, 1) := by decide +kernel
theorem dX5_peek_30 : decode cX5_peek 30 = .ok (.goto 4, 3) := by decide +kernel
theorem dX5_peek_33 : decode cX5_peek 33 = .ok (.iconst 0, 1) := by decide +kernel
theorem dX5_peek_34 : decode cX5_peek 34 = .ok (.ireturn, 1) := by decide +kernel
theorem dX5_disk_0 : decode cX5_disk 0 = .ok (.aload_n 0, 1) := by decide +kernel
theorem dX5_disk_1 : decode cX5_disk 1 = .ok (.iload_n 1, 1) := by decide +kernel
theorem dX5_disk_2 : decode cX5_disk 2 = .ok (.invokevirtual 42, 3) := by decide +kernel
theorem dX5_disk_5 : decode cX5_disk 5 = .ok (.ifnull 27, 3) := by decide +kernel
theorem dX5_disk_8 : decode cX5_disk 8 = .ok (.iload_n 2, 1) := by decide +kernel
theorem dX5_disk_9 : decode cX5_disk 9 = .ok (.ifCond .lt 23, 3) := by decide +kernel
theorem dX5_disk_12 : decode cX5_disk 12 = .ok (.iload_n 2, 1) := by decide +kernel
theorem dX5_disk_13 : decode cX5_disk 13 = .ok (.sipush 1024, 3) := by decide +kernel
theorem dX5_disk_16 : decode cX5_disk 16 = .ok (.if_icmp .ge 16, 3) := by decide +kernel
theorem dX5_disk_19 : decode cX5_disk 19 = .ok (.aload_n 0, 1) := by decide +kernel
theorem dX5_disk_20 : decode cX5_disk 20 = .ok (.iload_n 1, 1) := by decide +kernel
theorem dX5_disk_21 : decode cX5_disk 21 = .ok (.invokevirtual 42, 3) := by decide +kernel
theorem dX5_disk_24 : decode cX5_disk 24 = .ok (.getfield 57, 3) := by decide +kernel
theorem dX5_disk_27 : decode cX5_disk 27 = .ok (.iload_n 2, 1) := by decide +kernel
theorem dX5_disk_28 : decode cX5_disk 28 = .ok (.iaload, 1) := by decide +kernel
theorem dX5_disk_29 : decode cX5_disk 29 = .ok (.goto 4, 3) := by decide +kernel
theorem dX5_disk_32 : decode cX5_disk 32 = .ok (.iconst 0, 1) := by decide +kernel
theorem dX5_disk_33 : decode cX5_disk 33 = .ok (.ireturn, 1) := by decide +kernel
theorem dX5_out_0 : decode cX5_out 0 = .ok (.aload_n 0, 1) := by decide +kernel
theorem dX5_out_1 : decode cX5_out 1 = .ok (.iload_n 1, 1) := by decide +kernel
theorem dX5_out_2 : decode cX5_out 2 = .ok (.invokevirtual 42, 3) := by decide +kernel
theorem dX5_out_5 : decode cX5_out 5 = .ok (.ifnull 39, 3) := by decide +kernel
theorem dX5_out_8 : decode cX5_out 8 = .ok (.iload_n 2, 1) := by decide +kernel
theorem dX5_out_9 : decode cX5_out 9 = .ok (.ifCond .lt 35, 3) := by decide +kernel
theorem dX5_out_12 : decode cX5_out 12 = .ok (.iload_n 2, 1) := by decide +kernel
theorem dX5_out_13 : decode cX5_out 13 = .ok (.sipush 1000, 3) := by decide +kernel
theorem dX5_out_16 : decode cX5_out 16 = .ok (.if_icmp .ge 28, 3) := by decide +kernel
theorem dX5_out_19 : decode cX5_out 19 = .ok (.iload_n 2, 1) := by decide +kernel
theorem dX5_out_20 : decode cX5_out 20 = .ok (.aload_n 0, 1) := by decide +kernel
theorem dX5_out_21 : decode cX5_out 21 = .ok (.iload_n 1, 1) := by decide +kernel
theorem dX5_out_22 : decode cX5_out 22 = .ok (.invokevirtual 42, 3) := by decide +kernel
theorem dX5_out_25 : decode cX5_out 25 = .ok (.getfield 98, 3) := by decide +kernel
theorem dX5_out_28 : decode cX5_out 28 = .ok (.if_icmp .ge 16, 3) := by decide +kernel
theorem dX5_out_31 : decode cX5_out 31 = .ok (.aload_n 0, 1) := by decide +kernel
theorem dX5_out_32 : decode cX5_out 32 = .ok (.iload_n 1, 1) := by decide +kernel
theorem dX5_out_33 : decode cX5_out 33 = .ok (.invokevirtual 42, 3) := by decide +kernel
theorem dX5_out_36 : decode cX5_out 36 = .ok (.getfield 107, 3) := by decide +kernel
theorem dX5_out_39 : decode cX5_out 39 = .ok (.iload_n 2, 1) := by decide +kernel
theorem dX5_out_40 : decode cX5_out 40 = .ok (.iaload, 1) := by decide +kernel
theorem dX5_out_41 : decode cX5_out 41 = .ok (.goto 4, 3) := by decide +kernel
theorem dX5_out_44 : decode cX5_out 44 = .ok (.iconst 0, 1) := by decide +kernel
theorem dX5_out_45 : decode cX5_out 45 = .ok (.ireturn, 1) := by decide +kernel
theorem dX5_cached_0 : decode cX5_cached 0 = .ok (.aload_n 0, 1) := by decide +kernel
theorem dX5_cached_1 : decode cX5_cached 1 = .ok (.iload_n 1, 1) := by decide +kernel
theorem dX5_cached_2 : decode cX5_cached 2 = .ok (.invokevirtual 42, 3) := by decide +kernel
theorem dX5_cached_5 : decode cX5_cached 5 = .ok (.ifnull 27, 3) := by decide +kernel
theorem dX5_cached_8 : decode cX5_cached 8 = .ok (.iload_n 2, 1) := by decide +kernel
theorem dX5_cached_9 : decode cX5_cached 9 = .ok (.ifCond .lt 23, 3) := by decide +kernel
theorem dX5_cached_12 : decode cX5_cached 12 = .ok (.iload_n 2, 1) := by decide +kernel
theorem dX5_cached_13 : decode cX5_cached 13 = .ok (.sipush 256, 3) := by decide +kernel
theorem dX5_cached_16 : decode cX5_cached 16 = .ok (.if_icmp .ge 16, 3) := by decide +kernel
theorem dX5_cached_19 : decode cX5_cached 19 = .ok (.aload_n 0, 1) := by decide +kernel
theorem dX5_cached_20 : decode cX5_cached 20 = .ok (.iload_n 1, 1) := by decide +kernel
theorem dX5_cached_21 : decode cX5_cached 21 = .ok (.invokevirtual 42, 3) := by decide +kernel
theorem dX5_cached_24 : decode cX5_cached 24 = .ok (.getfield 110, 3) := by decide +kernel
theorem dX5_cached_27 : decode cX5_cached 27 = .ok (.iload_n 2, 1) := by decide +kernel
theorem dX5_cached_28 : decode cX5_cached 28 = .ok (.iaload, 1) := by decide +kernel
theorem dX5_cached_29 : decode cX5_cached 29 = .ok (.ifCond .ge 5, 3) := by decide +kernel
theorem dX5_cached_32 : decode cX5_cached 32 = .ok (.iconst (-1), 1) := by decide +kernel
theorem dX5_cached_33 : decode cX5_cached 33 = .ok (.ireturn, 1) := by decide +kernel
theorem dX5_cached_34 : decode cX5_cached 34 = .ok (.bipush 8, 2) := by decide +kernel
theorem dX5_cached_36 : decode cX5_cached 36 = .ok (.aload_n 0, 1) := by decide +kernel
theorem dX5_cached_37 : decode cX5_cached 37 = .ok (.iload_n 1, 1) := by decide +kernel
theorem dX5_cached_38 : decode cX5_cached 38 = .ok (.invokevirtual 42, 3) := by decide +kernel
theorem dX5_cached_41 : decode cX5_cached 41 = .ok (.getfield 110, 3) := by decide +kernel
theorem dX5_cached_44 : decode cX5_cached 44 = .ok (.iload_n 2, 1) := by decide +kernel
theorem dX5_cached_45 : decode cX5_cached 45 = .ok (.iaload, 1) := by decide +kernel
theorem dX5_cached_46 : decode cX5_cached 46 = .ok (.imul, 1) := by decide +kernel
theorem dX5_cached_47 : decode cX5_cached 47 = .ok (.aload_n 0, 1) := by decide +kernel
theorem dX5_cached_48 : decode cX5_cached 48 = .ok (.iload_n 1, 1) := by decide +kernel
theorem dX5_cached_49 : decode cX5_cached 49 = .ok (.invokevirtual 42, 3) := by decide +kernel
theorem dX5_cached_52 : decode cX5_cached 52 = .ok (.getfield 113, 3) := by decide +kernel
theorem dX5_cached_55 : decode cX5_cached 55 = .ok (.iload_n 2, 1) := by decide +kernel
theorem dX5_cached_56 : decode cX5_cached 56 = .ok (.iaload, 1) := by decide +kernel
theorem dX5_cached_57 : decode cX5_cached 57 = .ok (.iadd, 1) := by decide +kernel
theorem dX5_cached_58 : decode cX5_cached 58 = .ok (.ireturn, 1) := by decide +kernel
theorem dX5_house_0 : decode cX5_house 0 = .ok (.iconst 0, 1) := by decide +kernel
theorem dX5_house_1 : decode cX5_house 1 = .ok (.istore_n 2, 1) := by decide +kernel
theorem dX5_house_2 : decode cX5_house 2 = .ok (.iconst 0, 1) := by decide +kernel
theorem dX5_house_3 : decode cX5_house 3 = .ok (.istore_n 3, 1) := by decide +kernel
theorem dX5_house_4 : decode cX5_house 4 = .ok (.iload_n 3, 1) := by decide +kernel
theorem dX5_house_5 : decode cX5_house 5 = .ok (.bipush 8, 2) := by decide +kernel
theorem dX5_house_7 : decode cX5_house 7 = .ok (.if_icmp .ge 24, 3) := by decide +kernel
theorem dX5_house_10 : decode cX5_house 10 = .ok (.aload_n 0, 1) := by decide +kernel
theorem dX5_house_11 : decode cX5_house 11 = .ok (.getfield 12, 3) := by decide +kernel
theorem dX5_house_14 : decode cX5_house 14 = .ok (.iload_n 3, 1) := by decide +kernel
theorem dX5_house_15 : decode cX5_house 15 = .ok (.aaload, 1) := by decide +kernel
theorem dX5_house_16 : decode cX5_house 16 = .ok (.getfield 24, 3) := by decide +kernel
theorem dX5_house_19 : decode cX5_house 19 = .ok (.ifCond .eq 6, 3) := by decide +kernel
theorem dX5_house_22 : decode cX5_house 22 = .ok (.iinc 2 1, 3) := by decide +kernel
theorem dX5_house_25 : decode cX5_house 25 = .ok (.iinc 3 1, 3) := by decide +kernel
theorem dX5_house_28 : decode cX5_house 28 = .ok (.goto (-24), 3) := by decide +kernel
theorem dX5_house_31 : decode cX5_house 31 = .ok (.iload_n 1, 1) := by decide +kernel
theorem dX5_house_32 : decode cX5_house 32 = .ok (.ifCond .ne 10, 3) := by decide +kernel
theorem dX5_house_35 : decode cX5_house 35 = .ok (.aload_n 0, 1) := by decide +kernel
theorem dX5_house_36 : decode cX5_house 36 = .ok (.getfield 20, 3) := by decide +kernel
theorem dX5_house_39 : decode cX5_house 39 = .ok (.goto 37, 3) := by decide +kernel
theorem dX5_house_42 : decode cX5_house 42 = .ok (.iload_n 1, 1) := by decide +kernel
theorem dX5_house_43 : decode cX5_house 43 = .ok (.iconst 1, 1) := by decide +kernel
theorem dX5_house_44 : decode cX5_house 44 = .ok (.if_icmp .ne 10, 3) := by decide +kernel
theorem dX5_house_47 : decode cX5_house 47 = .ok (.aload_n 0, 1) := by decide +kernel
theorem dX5_house_48 : decode cX5_house 48 = .ok (.getfield 28, 3) := by decide +kernel
theorem dX5_house_51 : decode cX5_house 51 = .ok (.goto 25, 3) := by decide +kernel
theorem dX5_house_54 : decode cX5_house 54 = .ok (.iload_n 1, 1) := by decide +kernel
theorem dX5_house_55 : decode cX5_house 55 = .ok (.iconst 2, 1) := by decide +kernel
theorem dX5_house_56 : decode cX5_house 56 = .ok (.if_icmp .ne 7, 3) := by decide +kernel
theorem dX5_house_59 : decode cX5_house 59 = .ok (.iload_n 2, 1) := by decide +kernel
theorem dX5_house_60 : decode cX5_house 60 = .ok (.goto 16, 3) := by decide +kernel
theorem dX5_house_63 : decode cX5_house 63 = .ok (.iload_n 1, 1) := by decide +kernel
theorem dX5_house_64 : decode cX5_house 64 = .ok (.iconst 3, 1) := by decide +kernel
theorem dX5_house_65 : decode cX5_house 65 = .ok (.if_icmp .ne 10, 3) := by decide +kernel
theorem dX5_house_68 : decode cX5_house 68 = .ok (.aload_n 0, 1) := by decide +kernel
theorem dX5_house_69 : decode cX5_house 69 = .ok (.getfield 31, 3) := by decide +kernel
theorem dX5_house_72 : decode cX5_house 72 = .ok (.goto 4, 3) := by decide +kernel
theorem dX5_house_75 : decode cX5_house 75 = .ok (.iconst 0, 1) := by decide +kernel
theorem dX5_house_76 : decode cX5_house 76 = .ok (.ireturn, 1) := by decide +kernel
theorem dX5_audit_0 : decode cX5_audit 0 = .ok (.iconst 0, 1) := by decide +kernel
theorem dX5_audit_1 : decode cX5_audit 1 = .ok (.ireturn, 1) := by decide +kernel
