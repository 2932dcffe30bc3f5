theorem dX3_init_0 : decode cX3_init 0 = .ok (.aload_n 0, 1) := by decide +kernel
theorem dX3_init_1 : decode cX3_init 1 = .ok (.invokespecial 3, 3) := by decide +kernel
theorem dX3_init_4 : decode cX3_init 4 = .ok (.aload_n 0, 1) := by decide +kernel
theorem dX3_init_5 : decode cX3_init 5 = .ok (.new 9, 3) := by decide +kernel
theorem dX3_init_8 : decode cX3_init 8 = .ok (.dup, 1) := by decide +kernel
theorem dX3_init_9 : decode cX3_init 9 = .ok (.invokespecial 11, 3) := by decide +kernel
theorem dX3_init_12 : decode cX3_init 12 = .ok (.putfield 12, 3) := by decide +kernel
theorem dX3_init_15 : decode cX3_init 15 = .ok (.aload_n 0, 1) := by decide +kernel
theorem dX3_init_16 : decode cX3_init 16 = .ok (.new 16, 3) := by decide +kernel
theorem dX3_init_19 : decode cX3_init 19 = .ok (.dup, 1) := by decide +kernel
theorem dX3_init_20 : decode cX3_init 20 = .ok (.aload_n 0, 1) := by decide +kernel
theorem dX3_init_21 : decode cX3_init 21 = .ok (.getfield 12, 3) := by decide +kernel
theorem dX3_init_24 : decode cX3_init 24 = .ok (.invokespecial 18, 3) := by decide +kernel
theorem dX3_init_27 : decode cX3_init 27 = .ok (.putfield 21, 3) := by decide +kernel
theorem dX3_init_30 : decode cX3_init 30 = .ok (.aload_n 0, 1) := by decide +kernel
theorem dX3_init_31 : decode cX3_init 31 = .ok (.bipush 8, 2) := by decide +kernel
theorem dX3_init_33 : decode cX3_init 33 = .ok (.anewarray 25, 3) := by decide +kernel
theorem dX3_init_36 : decode cX3_init 36 = .ok (.putfield 27, 3) := by decide +kernel
theorem dX3_init_39 : decode cX3_init 39 = .ok (.aload_n 0, 1) := by decide +kernel
theorem dX3_init_40 : decode cX3_init 40 = .ok (.bipush 8, 2) := by decide +kernel
theorem dX3_init_42 : decode cX3_init 42 = .ok (.bipush 10, 2) := by decide +kernel
theorem dX3_init_44 : decode cX3_init 44 = .ok (.invokevirtual 31, 3) := by decide +kernel
theorem dX3_init_47 : decode cX3_init 47 = .ok (.return_, 1) := by decide +kernel
theorem dX3_install_0 : decode cX3_install 0 = .ok (.iload_n 1, 1) := by decide +kernel
theorem dX3_install_1 : decode cX3_install 1 = .ok (.iconst 4, 1) := by decide +kernel
theorem dX3_install_2 : decode cX3_install 2 = .ok (.if_icmp .lt 22, 3) := by decide +kernel
theorem dX3_install_5 : decode cX3_install 5 = .ok (.iload_n 1, 1) := by decide +kernel
theorem dX3_install_6 : decode cX3_install 6 = .ok (.sipush 256, 3) := by decide +kernel
theorem dX3_install_9 : decode cX3_install 9 = .ok (.if_icmp .gt 15, 3) := by decide +kernel
theorem dX3_install_12 : decode cX3_install 12 = .ok (.iload_n 2, 1) := by decide +kernel
theorem dX3_install_13 : decode cX3_install 13 = .ok (.iconst 1, 1) := by decide +kernel
theorem dX3_install_14 : decode cX3_install 14 = .ok (.if_icmp .lt 10, 3) := by decide +kernel
theorem dX3_install_17 : decode cX3_install 17 = .ok (.iload_n 2, 1) := by decide +kernel
theorem dX3_install_18 : decode cX3_install 18 = .ok (.sipush 1000, 3) := by decide +kernel
theorem dX3_install_21 : decode cX3_install 21 = .ok (.if_icmp .le 5, 3) := by decide +kernel
theorem dX3_install_24 : decode cX3_install 24 = .ok (.iconst (-1), 1) := by decide +kernel
theorem dX3_install_25 : decode cX3_install 25 = .ok (.ireturn, 1) := by decide +kernel
theorem dX3_install_26 : decode cX3_install 26 = .ok (.aload_n 0, 1) := by decide +kernel
theorem dX3_install_27 : decode cX3_install 27 = .ok (.iload_n 1, 1) := by decide +kernel
theorem dX3_install_28 : decode cX3_install 28 = .ok (.iload_n 2, 1) := by decide +kernel
theorem dX3_install_29 : decode cX3_install 29 = .ok (.invokevirtual 31, 3) := by decide +kernel
theorem dX3_install_32 : decode cX3_install 32 = .ok (.iconst 0, 1) := by decide +kernel
theorem dX3_install_33 : decode cX3_install 33 = .ok (.ireturn, 1) := by decide +kernel
theorem dX3_guest_0 : decode cX3_guest 0 = .ok (.iload_n 1, 1) := by decide +kernel
theorem dX3_guest_1 : decode cX3_guest 1 = .ok (.iconst 1, 1) := by decide +kernel
theorem dX3_guest_2 : decode cX3_guest 2 = .ok (.if_icmp .lt 9, 3) := by decide +kernel
theorem dX3_guest_5 : decode cX3_guest 5 = .ok (.iload_n 1, 1) := by decide +kernel
theorem dX3_guest_6 : decode cX3_guest 6 = .ok (.bipush 64, 2) := by decide +kernel
theorem dX3_guest_8 : decode cX3_guest 8 = .ok (.if_icmp .le 5, 3) := by decide +kernel
theorem dX3_guest_11 : decode cX3_guest 11 = .ok (.iconst (-1), 1) := by decide +kernel
theorem dX3_guest_12 : decode cX3_guest 12 = .ok (.ireturn, 1) := by decide +kernel
theorem dX3_guest_13 : decode cX3_guest 13 = .ok (.aload_n 0, 1) := by decide +kernel
theorem dX3_guest_14 : decode cX3_guest 14 = .ok (.invokevirtual 35, 3) := by decide +kernel
theorem dX3_guest_17 : decode cX3_guest 17 = .ok (.istore_n 2, 1) := by decide +kernel
theorem dX3_guest_18 : decode cX3_guest 18 = .ok (.iload_n 2, 1) := by decide +kernel
theorem dX3_guest_19 : decode cX3_guest 19 = .ok (.iconst (-1), 1) := by decide +kernel
theorem dX3_guest_20 : decode cX3_guest 20 = .ok (.if_icmp .ne 6, 3) := by decide +kernel
theorem dX3_guest_23 : decode cX3_guest 23 = .ok (.bipush (-12), 2) := by decide +kernel
theorem dX3_guest_25 : decode cX3_guest 25 = .ok (.ireturn, 1) := by decide +kernel
theorem dX3_guest_26 : decode cX3_guest 26 = .ok (.aload_n 0, 1) := by decide +kernel
theorem dX3_guest_27 : decode cX3_guest 27 = .ok (.iload_n 2, 1) := by decide +kernel
theorem dX3_guest_28 : decode cX3_guest 28 = .ok (.invokevirtual 39, 3) := by decide +kernel
theorem dX3_guest_31 : decode cX3_guest 31 = .ok (.astore_n 3, 1) := by decide +kernel
theorem dX3_guest_32 : decode cX3_guest 32 = .ok (.aload_n 3, 1) := by decide +kernel
theorem dX3_guest_33 : decode cX3_guest 33 = .ok (.iload_n 1, 1) := by decide +kernel
theorem dX3_guest_34 : decode cX3_guest 34 = .ok (.invokevirtual 43, 3) := by decide +kernel
theorem dX3_guest_37 : decode cX3_guest 37 = .ok (.aload_n 0, 1) := by decide +kernel
theorem dX3_guest_38 : decode cX3_guest 38 = .ok (.getfield 12, 3) := by decide +kernel
theorem dX3_guest_41 : decode cX3_guest 41 = .ok (.aload_n 3, 1) := by decide +kernel
theorem dX3_guest_42 : decode cX3_guest 42 = .ok (.invokevirtual 47, 3) := by decide +kernel
theorem dX3_guest_45 : decode cX3_guest 45 = .ok (.iload_n 2, 1) := by decide +kernel
theorem dX3_guest_46 : decode cX3_guest 46 = .ok (.ireturn, 1) := by decide +kernel
theorem dX3_poke_0 : decode cX3_poke 0 = .ok (.aload_n 0, 1) := by decide +kernel
theorem dX3_poke_1 : decode cX3_poke 1 = .ok (.iload_n 1, 1) := by decide +kernel
theorem dX3_poke_2 : decode cX3_poke 2 = .ok (.invokevirtual 51, 3) := by decide +kernel
theorem dX3_poke_5 : decode cX3_poke 5 = .ok (.astore 4, 2) := by decide +kernel
theorem dX3_poke_7 : decode cX3_poke 7 = .ok (.aload 4, 2) := by decide +kernel
theorem dX3_poke_9 : decode cX3_poke 9 = .ok (.ifnonnull 6, 3) := by decide +kernel
theorem dX3_poke_12 : decode cX3_poke 12 = .ok (.bipush (-14), 2) := by decide +kernel
theorem dX3_poke_14 : decode cX3_poke 14 = .ok (.ireturn, 1) := by decide +kernel
theorem dX3_poke_15 : decode cX3_poke 15 = .ok (.aload 4, 2) := by decide +kernel
theorem dX3_poke_17 : decode cX3_poke 17 = .ok (.getfield 54, 3) := by decide +kernel
theorem dX3_poke_20 : decode cX3_poke 20 = .ok (.ifCond .eq 5, 3) := by decide +kernel
theorem dX3_poke_23 : decode cX3_poke 23 = .ok (.iconst (-1), 1) := by decide +kernel
theorem dX3_poke_24 : decode cX3_poke 24 = .ok (.ireturn, 1) := by decide +kernel
theorem dX3_poke_25 : decode cX3_poke 25 = .ok (.aload 4, 2) := by decide +kernel
theorem dX3_poke_27 : decode cX3_poke 27 = .ok (.iload_n 2, 1) := by decide +kernel
theorem dX3_poke_28 : decode cX3_poke 28 = .ok (.invokevirtual 58, 3) := by decide +kernel
theorem dX3_poke_31 : decode cX3_poke 31 = .ok (.ifCond .ne 6, 3) := by decide +kernel
theorem dX3_poke_34 : decode cX3_poke 34 = .ok (.bipush (-2), 2) := by decide +kernel
theorem dX3_poke_36 : decode cX3_poke 36 = .ok (.ireturn, 1) := by decide +kernel
theorem dX3_poke_37 : decode cX3_poke 37 = .ok (.aload_n 0, 1) := by decide +kernel
theorem dX3_poke_38 : decode cX3_poke 38 = .ok (.getfield 12, 3) := by decide +kernel
theorem dX3_poke_41 : decode cX3_poke 41 = .ok (.aload 4, 2) := by decide +kernel
theorem dX3_poke_43 : decode cX3_poke 43 = .ok (.iload_n 2, 1) := by decide +kernel
theorem dX3_poke_44 : decode cX3_poke 44 = .ok (.iload_n 3, 1) := by decide +kernel
theorem dX3_poke_45 : decode cX3_poke 45 = .ok (.invokevirtual 62, 3) := by decide +kernel
theorem dX3_poke_48 : decode cX3_poke 48 = .ok (.iconst 0, 1) := by decide +kernel
theorem dX3_poke_49 : decode cX3_poke 49 = .ok (.ireturn, 1) := by decide +kernel
theorem dX3_pokeDisk_0 : decode cX3_pokeDisk 0 = .ok (.aload_n 0, 1) := by decide +kernel
theorem dX3_pokeDisk_1 : decode cX3_pokeDisk 1 = .ok (.iload_n 1, 1) := by decide +kernel
theorem dX3_pokeDisk_2 : decode cX3_pokeDisk 2 = .ok (.invokevirtual 51, 3) := by decide +kernel
theorem dX3_pokeDisk_5 : decode cX3_pokeDisk 5 = .ok (.astore 4, 2) := by decide +kernel
theorem dX3_pokeDisk_7 : decode cX3_pokeDisk 7 = .ok (.aload 4, 2) := by decide +kernel
theorem dX3_pokeDisk_9 : decode cX3_pokeDisk 9 = .ok (.ifnonnull 6, 3) := by decide +kernel
theorem dX3_pokeDisk_12 : decode cX3_pokeDisk 12 = .ok (.bipush (-14), 2) := by decide +kernel
theorem dX3_pokeDisk_14 : decode cX3_pokeDisk 14 = .ok (.ireturn, 1) := by decide +kernel
theorem dX3_pokeDisk_15 : decode cX3_pokeDisk 15 = .ok (.aload 4, 2) := by decide +kernel
theorem dX3_pokeDisk_17 : decode cX3_pokeDisk 17 = .ok (.getfield 54, 3) := by decide +kernel
theorem dX3_pokeDisk_20 : decode cX3_pokeDisk 20 = .ok (.ifCond .eq 5, 3) := by decide +kernel
theorem dX3_pokeDisk_23 : decode cX3_pokeDisk 23 = .ok (.iconst (-1), 1) := by decide +kernel
theorem dX3_pokeDisk_24 : decode cX3_pokeDisk 24 = .ok (.ireturn, 1) := by decide +kernel
theorem dX3_pokeDisk_25 : decode cX3_pokeDisk 25 = .ok (.iload_n 2, 1) := by decide +kernel
theorem dX3_pokeDisk_26 : decode cX3_pokeDisk 26 = .ok (.ifCond .lt 13, 3) := by decide +kernel
theorem dX3_pokeDisk_29 : decode cX3_pokeDisk 29 = .ok (.iload_n 2, 1) := by decide +kernel
theorem dX3_pokeDisk_30 : decode cX3_pokeDisk 30 = .ok (.aload 4, 2) := by decide +kernel
theorem dX3_pokeDisk_32 : decode cX3_pokeDisk 32 = .ok (.getfield 66, 3) := by decide +kernel
theorem dX3_pokeDisk_35 : decode cX3_pokeDisk 35 = .ok (.arraylength, 1) := by decide +kernel
theorem dX3_pokeDisk_36 : decode cX3_pokeDisk 36 = .ok (.if_icmp .lt 6, 3) := by decide +kernel
theorem dX3_pokeDisk_39 : decode cX3_pokeDisk 39 = .ok (.bipush (-2), 2) := by decide +kernel
theorem dX3_pokeDisk_41 : decode cX3_pokeDisk 41 = .ok (.ireturn, 1) := by decide +kernel
theorem dX3_pokeDisk_42 : decode cX3_pokeDisk 42 = .ok (.aload 4, 2) := by decide +kernel
theorem dX3_pokeDisk_44 : decode cX3_pokeDisk 44 = .ok (.getfield 66, 3) := by decide +kernel
theorem dX3_pokeDisk_47 : decode cX3_pokeDisk 47 = .ok (.iload_n 2, 1) := by decide +kernel
theorem dX3_pokeDisk_48 : decode cX3_pokeDisk 48 = .ok (.iload_n 3, 1) := by decide +kernel
theorem dX3_pokeDisk_49 : decode cX3_pokeDisk 49 = .ok (.iastore, 1) := by decide +kernel
theorem dX3_pokeDisk_50 : decode cX3_pokeDisk 50 = .ok (.iconst 0, 1) := by decide +kernel
theorem dX3_pokeDisk_51 : decode cX3_pokeDisk 51 = .ok (.ireturn, 1) := by decide +kernel
theorem dX3_start_0 : decode cX3_start 0 = .ok (.aload_n 0, 1) := by decide +kernel
theorem dX3_start_1 : decode cX3_start 1 = .ok (.iload_n 1, 1) := by decide +kernel
theorem dX3_start_2 : decode cX3_start 2 = .ok (.invokevirtual 51, 3) := by decide +kernel
theorem dX3_start_5 : decode cX3_start 5 = .ok (.astore_n 3, 1) := by decide +kernel
theorem dX3_start_6 : decode cX3_start 6 = .ok (.aload_n 3, 1) := by decide +kernel
theorem dX3_start_7 : decode cX3_start 7 = .ok (.ifnonnull 6, 3) := by decide +kernel
theorem dX3_start_10 : decode cX3_start 10 = .ok (.bipush (-14), 2) := by decide +kernel
theorem dX3_start_12 : decode cX3_start 12 = .ok (.ireturn, 1) := by decide +kernel
theorem dX3_start_13 : decode cX3_start 13 = .ok (.aload_n 3, 1) := by decide +kernel
theorem dX3_start_14 : decode cX3_start 14 = .ok (.getfield 54, 3) := by decide +kernel
theorem dX3_start_17 : decode cX3_start 17 = .ok (.ifCond .eq 5, 3) := by decide +kernel
theorem dX3_start_20 : decode cX3_start 20 = .ok (.iconst (-1), 1) := by decide +kernel
theorem dX3_start_21 : decode cX3_start 21 = .ok (.ireturn, 1) := by decide +kernel
theorem dX3_start_22 : decode cX3_start 22 = .ok (.aload_n 3, 1) := by decide +kernel
theorem dX3_start_23 : decode cX3_start 23 = .ok (.invokevirtual 70, 3) := by decide +kernel
theorem dX3_start_26 : decode cX3_start 26 = .ok (.aload_n 3, 1) := by decide +kernel
theorem dX3_start_27 : decode cX3_start 27 = .ok (.iload_n 2, 1) := by decide +kernel
theorem dX3_start_28 : decode cX3_start 28 = .ok (.putfield 73, 3) := by decide +kernel
theorem dX3_start_31 : decode cX3_start 31 = .ok (.aload_n 3, 1) := by decide +kernel
theorem dX3_start_32 : decode cX3_start 32 = .ok (.iconst 1, 1) := by decide +kernel
theorem dX3_start_33 : decode cX3_start 33 = .ok (.putfield 76, 3) := by decide +kernel
theorem dX3_start_36 : decode cX3_start 36 = .ok (.aload_n 3, 1) := by decide +kernel
theorem dX3_start_37 : decode cX3_start 37 = .ok (.iconst 1, 1) := by decide +kernel
theorem dX3_start_38 : decode cX3_start 38 = .ok (.putfield 54, 3) := by decide +kernel
theorem dX3_start_41 : decode cX3_start 41 = .ok (.iconst 0, 1) := by decide +kernel
theorem dX3_start_42 : decode cX3_start 42 = .ok (.ireturn, 1) := by decide +kernel
theorem dX3_stop_0 : decode cX3_stop 0 = .ok (.aload_n 0, 1) := by decide +kernel
theorem dX3_stop_1 : decode cX3_stop 1 = .ok (.iload_n 1, 1) := by decide +kernel
theorem dX3_stop_2 : decode cX3_stop 2 = .ok (.invokevirtual 51, 3) := by decide +kernel
theorem dX3_stop_5 : decode cX3_stop 5 = .ok (.astore_n 2, 1) := by decide +kernel
theorem dX3_stop_6 : decode cX3_stop 6 = .ok (.aload_n 2, 1) := by decide +kernel
theorem dX3_stop_7 : decode cX3_stop 7 = .ok (.ifnonnull 6, 3) := by decide +kernel
theorem dX3_stop_10 : decode cX3_stop 10 = .ok (.bipush (-14), 2) := by decide +kernel
theorem dX3_stop_12 : decode cX3_stop 12 = .ok (.ireturn, 1) := by decide +kernel
theorem dX3_stop_13 : decode cX3_stop 13 = .ok (.aload_n 2, 1) := by decide +kernel
theorem dX3_stop_14 : decode cX3_stop 14 = .ok (.iconst 0, 1) := by decide +kernel
theorem dX3_stop_15 : decode cX3_stop 15 = .ok (.putfield 54, 3) := by decide +kernel
theorem dX3_stop_18 : decode cX3_stop 18 = .ok (.iconst 0, 1) := by decide +kernel
theorem dX3_stop_19 : decode cX3_stop 19 = .ok (.ireturn, 1) := by decide +kernel
theorem dX3_input_0 : decode cX3_input 0 = .ok (.aload_n 0, 1) := by decide +kernel
theorem dX3_input_1 : decode cX3_input 1 = .ok (.iload_n 1, 1) := by decide +kernel
theorem dX3_input_2 : decode cX3_input 2 = .ok (.invokevirtual 51, 3) := by decide +kernel
theorem dX3_input_5 : decode cX3_input 5 = .ok (.astore_n 3, 1) := by decide +kernel
theorem dX3_input_6 : decode cX3_input 6 = .ok (.aload_n 3, 1) := by decide +kernel
theorem dX3_input_7 : decode cX3_input 7 = .ok (.ifnonnull 6, 3) := by decide +kernel
theorem dX3_input_10 : decode cX3_input 10 = .ok (.bipush (-14), 2) := by decide +kernel
theorem dX3_input_12 : decode cX3_input 12 = .ok (.ireturn, 1) := by decide +kernel
theorem dX3_input_13 : decode cX3_input 13 = .ok (.aload_n 3, 1) := by decide +kernel
theorem dX3_input_14 : decode cX3_input 14 = .ok (.iload_n 2, 1) := by decide +kernel
theorem dX3_input_15 : decode cX3_input 15 = .ok (.invokevirtual 79, 3) := by decide +kernel
theorem dX3_input_18 : decode cX3_input 18 = .ok (.ifCond .ne 6, 3) := by decide +kernel
theorem dX3_input_21 : decode cX3_input 21 = .ok (.bipush (-12), 2) := by decide +kernel
theorem dX3_input_23 : decode cX3_input 23 = .ok (.ireturn, 1) := by decide +kernel
theorem dX3_input_24 : decode cX3_input 24 = .ok (.aload_n 3, 1) := by decide +kernel
theorem dX3_input_25 : decode cX3_input 25 = .ok (.getfield 54, 3) := by decide +kernel
theorem dX3_input_28 : decode cX3_input 28 = .ok (.iconst 2, 1) := by decide +kernel
theorem dX3_input_29 : decode cX3_input 29 = .ok (.if_icmp .ne 8, 3) := by decide +kernel
theorem dX3_input_32 : decode cX3_input 32 = .ok (.aload_n 3, 1) := by decide +kernel
theorem dX3_input_33 : decode cX3_input 33 = .ok (.iconst 1, 1) := by decide +kernel
theorem dX3_input_34 : decode cX3_input 34 = .ok (.putfield 54, 3) := by decide +kernel
theorem dX3_input_37 : decode cX3_input 37 = .ok (.iconst 0, 1) := by decide +kernel
theorem dX3_input_38 : decode cX3_input 38 = .ok (.ireturn, 1) := by decide +kernel
theorem dX3_copy_0 : decode cX3_copy 0 = .ok (.aload_n 0, 1) := by decide +kernel
theorem dX3_copy_1 : decode cX3_copy 1 = .ok (.iload_n 1, 1) := by decide +kernel
theorem dX3_copy_2 : decode cX3_copy 2 = .ok (.invokevirtual 51, 3) := by decide +kernel
theorem dX3_copy_5 : decode cX3_copy 5 = .ok (.astore_n 2, 1) := by decide +kernel
theorem dX3_copy_6 : decode cX3_copy 6 = .ok (.aload_n 2, 1) := by decide +kernel
theorem dX3_copy_7 : decode cX3_copy 7 = .ok (.ifnonnull 6, 3) := by decide +kernel
theorem dX3_copy_10 : decode cX3_copy 10 = .ok (.bipush (-14), 2) := by decide +kernel
theorem dX3_copy_12 : decode cX3_copy 12 = .ok (.ireturn, 1) := by decide +kernel
theorem dX3_copy_13 : decode cX3_copy 13 = .ok (.aload_n 0, 1) := by decide +kernel
theorem dX3_copy_14 : decode cX3_copy 14 = .ok (.invokevirtual 35, 3) := by decide +kernel
theorem dX3_copy_17 : decode cX3_copy 17 = .ok (.istore_n 3, 1) := by decide +kernel
theorem dX3_copy_18 : decode cX3_copy 18 = .ok (.iload_n 3, 1) := by decide +kernel
theorem dX3_copy_19 : decode cX3_copy 19 = .ok (.iconst (-1), 1) := by decide +kernel
theorem dX3_copy_20 : decode cX3_copy 20 = .ok (.if_icmp .ne 6, 3) := by decide +kernel
theorem dX3_copy_23 : decode cX3_copy 23 = .ok (.bipush (-12), 2) := by decide +kernel
theorem dX3_copy_25 : decode cX3_copy 25 = .ok (.ireturn, 1) := by decide +kernel
theorem dX3_copy_26 : decode cX3_copy 26 = .ok (.aload_n 0, 1) := by decide +kernel
theorem dX3_copy_27 : decode cX3_copy 27 = .ok (.iload_n 3, 1) := by decide +kernel
theorem dX3_copy_28 : decode cX3_copy 28 = .ok (.invokevirtual 39, 3) := by decide +kernel
theorem dX3_copy_31 : decode cX3_copy 31 = .ok (.astore 4, 2) := by decide +kernel
theorem dX3_copy_33 : decode cX3_copy 33 = .ok (.aload 4, 2) := by decide +kernel
theorem dX3_copy_35 : decode cX3_copy 35 = .ok (.aload_n 2, 1) := by decide +kernel
theorem dX3_copy_36 : decode cX3_copy 36 = .ok (.invokevirtual 82, 3) := by decide +kernel
theorem dX3_copy_39 : decode cX3_copy 39 = .ok (.aload_n 0, 1) := by decide +kernel
theorem dX3_copy_40 : decode cX3_copy 40 = .ok (.getfield 12, 3) := by decide +kernel
theorem dX3_copy_43 : decode cX3_copy 43 = .ok (.aload_n 2, 1) := by decide +kernel
theorem dX3_copy_44 : decode cX3_copy 44 = .ok (.aload 4, 2) := by decide +kernel
theorem dX3_copy_46 : decode cX3_copy 46 = .ok (.invokevirtual 85, 3) := by decide +kernel
theorem dX3_copy_49 : decode cX3_copy 49 = .ok (.iload_n 3, 1) := by decide +kernel
theorem dX3_copy_50 : decode cX3_copy 50 = .ok (.ireturn, 1) := by decide +kernel
theorem dX3_drop_0 : decode cX3_drop 0 = .ok (.aload_n 0, 1) := by decide +kernel
theorem dX3_drop_1 : decode cX3_drop 1 = .ok (.iload_n 1, 1) := by decide +kernel
theorem dX3_drop_2 : decode cX3_drop 2 = .ok (.invokevirtual 51, 3) := by decide +kernel
theorem dX3_drop_5 : decode cX3_drop 5 = .ok (.astore_n 2, 1) := by decide +kernel
theorem dX3_drop_6 : decode cX3_drop 6 = .ok (.aload_n 2, 1) := by decide +kernel
theorem dX3_drop_7 : decode cX3_drop 7 = .ok (.ifnonnull 6, 3) := by decide +kernel
theorem dX3_drop_10 : decode cX3_drop 10 = .ok (.bipush (-14), 2) := by decide +kernel
theorem dX3_drop_12 : decode cX3_drop 12 = .ok (.ireturn, 1) := by decide +kernel
theorem dX3_drop_13 : decode cX3_drop 13 = .ok (.aload_n 0, 1) := by decide +kernel
theorem dX3_drop_14 : decode cX3_drop 14 = .ok (.getfield 12, 3) := by decide +kernel
theorem dX3_drop_17 : decode cX3_drop 17 = .ok (.aload_n 2, 1) := by decide +kernel
theorem dX3_drop_18 : decode cX3_drop 18 = .ok (.invokevirtual 89, 3) := by decide +kernel
theorem dX3_drop_21 : decode cX3_drop 21 = .ok (.aload_n 2, 1) := by decide +kernel
theorem dX3_drop_22 : decode cX3_drop 22 = .ok (.iconst 0, 1) := by decide +kernel
theorem dX3_drop_23 : decode cX3_drop 23 = .ok (.putfield 92, 3) := by decide +kernel
theorem dX3_drop_26 : decode cX3_drop 26 = .ok (.iconst 0, 1) := by decide +kernel
theorem dX3_drop_27 : decode cX3_drop 27 = .ok (.ireturn, 1) := by decide +kernel
theorem dX3_run_0 : decode cX3_run 0 = .ok (.iload_n 1, 1) := by decide +kernel
theorem dX3_run_1 : decode cX3_run 1 = .ok (.ifCond .lt 10, 3) := by decide +kernel
theorem dX3_run_4 : decode cX3_run 4 = .ok (.iload_n 1, 1) := by decide +kernel
theorem dX3_run_5 : decode cX3_run 5 = .ok (.sipush 2000, 3) := by decide +kernel
theorem dX3_run_8 : decode cX3_run 8 = .ok (.if_icmp .le 5, 3) := by decide +kernel
theorem dX3_run_11 : decode cX3_run 11 = .ok (.iconst (-1), 1) := by decide +kernel
theorem dX3_run_12 : decode cX3_run 12 = .ok (.ireturn, 1) := by decide +kernel
theorem dX3_run_13 : decode cX3_run 13 = .ok (.iconst 0, 1) := by decide +kernel
theorem dX3_run_14 : decode cX3_run 14 = .ok (.istore_n 2, 1) := by decide +kernel
theorem dX3_run_15 : decode cX3_run 15 = .ok (.iload_n 2, 1) := by decide +kernel
theorem dX3_run_16 : decode cX3_run 16 = .ok (.iload_n 1, 1) := by decide +kernel
theorem dX3_run_17 : decode cX3_run 17 = .ok (.if_icmp .ge 39, 3) := by decide +kernel
theorem dX3_run_20 : decode cX3_run 20 = .ok (.aload_n 0, 1) := by decide +kernel
theorem dX3_run_21 : decode cX3_run 21 = .ok (.invokevirtual 96, 3) := by decide +kernel
theorem dX3_run_24 : decode cX3_run 24 = .ok (.astore_n 3, 1) := by decide +kernel
theorem dX3_run_25 : decode cX3_run 25 = .ok (.aload_n 3, 1) := by decide +kernel
theorem dX3_run_26 : decode cX3_run 26 = .ok (.ifnonnull 6, 3) := by decide +kernel
theorem dX3_run_29 : decode cX3_run 29 = .ok (.goto 27, 3) := by decide +kernel
theorem dX3_run_32 : decode cX3_run 32 = .ok (.aload_n 0, 1) := by decide +kernel
theorem dX3_run_33 : decode cX3_run 33 = .ok (.getfield 21, 3) := by decide +kernel
theorem dX3_run_36 : decode cX3_run 36 = .ok (.aload_n 3, 1) := by decide +kernel
theorem dX3_run_37 : decode cX3_run 37 = .ok (.invokevirtual 100, 3) := by decide +kernel
theorem dX3_run_40 : decode cX3_run 40 = .ok (.aload_n 0, 1) := by decide +kernel
theorem dX3_run_41 : decode cX3_run 41 = .ok (.dup, 1) := by decide +kernel
theorem dX3_run_42 : decode cX3_run 42 = .ok (.getfield 103, 3) := by decide +kernel
theorem dX3_run_45 : decode cX3_run 45 = .ok (.iconst 1, 1) := by decide +kernel
theorem dX3_run_46 : decode cX3_run 46 = .ok (.isub, 1) := by decide +kernel
theorem dX3_run_47 : decode cX3_run 47 = .ok (.putfield 103, 3) := by decide +kernel
theorem dX3_run_50 : decode cX3_run 50 = .ok (.iinc 2 1, 3) := by decide +kernel
theorem dX3_run_53 : decode cX3_run 53 = .ok (.goto (-38), 3) := by decide +kernel
theorem dX3_run_56 : decode cX3_run 56 = .ok (.aload_n 0, 1) := by decide +kernel
theorem dX3_run_57 : decode cX3_run 57 = .ok (.dup, 1) := by decide +kernel
theorem dX3_run_58 : decode cX3_run 58 = .ok (.getfield 106, 3) := by decide +kernel
theorem dX3_run_61 : decode cX3_run 61 = .ok (.iload_n 2, 1) := by decide +kernel
theorem dX3_run_62 : decode cX3_run 62 = .ok (.iadd, 1) := by decide +kernel
theorem dX3_run_63 : decode cX3_run 63 = .ok (.putfield 106, 3) := by decide +kernel
theorem dX3_run_66 : decode cX3_run 66 = .ok (.iload_n 2, 1) := by decide +kernel
theorem dX3_run_67 : decode cX3_run 67 = .ok (.ireturn, 1) := by decide +kernel
theorem dX3_only_0 : decode cX3_only 0 = .ok (.aload_n 0, 1) := by decide +kernel
theorem dX3_only_1 : decode cX3_only 1 = .ok (.iload_n 1, 1) := by decide +kernel
theorem dX3_only_2 : decode cX3_only 2 = .ok (.invokevirtual 51, 3) := by decide +kernel
theorem dX3_only_5 : decode cX3_only 5 = .ok (.astore_n 3, 1) := by decide +kernel
theorem dX3_only_6 : decode cX3_only 6 = .ok (.aload_n 3, 1) := by decide +kernel
theorem dX3_only_7 : decode cX3_only 7 = .ok (.ifnonnull 6, 3) := by decide +kernel
theorem dX3_only_10 : decode cX3_only 10 = .ok (.bipush (-14), 2) := by decide +kernel
theorem dX3_only_12 : decode cX3_only 12 = .ok (.ireturn, 1) := by decide +kernel
theorem dX3_only_13 : decode cX3_only 13 = .ok (.iload_n 2, 1) := by decide +kernel
theorem dX3_only_14 : decode cX3_only 14 = .ok (.ifCond .lt 10, 3) := by decide +kernel
theorem dX3_only_17 : decode cX3_only 17 = .ok (.iload_n 2, 1) := by decide +kernel
theorem dX3_only_18 : decode cX3_only 18 = .ok (.sipush 2000, 3) := by decide +kernel
theorem dX3_only_21 : decode cX3_only 21 = .ok (.if_icmp .le 5, 3) := by decide +kernel
theorem dX3_only_24 : decode cX3_only 24 = .ok (.iconst (-1), 1) := by decide +kernel
theorem dX3_only_25 : decode cX3_only 25 = .ok (.ireturn, 1) := by decide +kernel
theorem dX3_only_26 : decode cX3_only 26 = .ok (.iconst 0, 1) := by decide +kernel
theorem dX3_only_27 : decode cX3_only 27 = .ok (.istore 4, 2) := by decide +kernel
theorem dX3_only_29 : decode cX3_only 29 = .ok (.iload 4, 2) := by decide +kernel
theorem dX3_only_31 : decode cX3_only 31 = .ok (.iload_n 2, 1) := by decide +kernel
theorem dX3_only_32 : decode cX3_only 32 = .ok (.if_icmp .ge 25, 3) := by decide +kernel
theorem dX3_only_35 : decode cX3_only 35 = .ok (.aload_n 3, 1) := by decide +kernel
theorem dX3_only_36 : decode cX3_only 36 = .ok (.getfield 54, 3) := by decide +kernel
theorem dX3_only_39 : decode cX3_only 39 = .ok (.iconst 1, 1) := by decide +kernel
theorem dX3_only_40 : decode cX3_only 40 = .ok (.if_icmp .ne 17, 3) := by decide +kernel
theorem dX3_only_43 : decode cX3_only 43 = .ok (.aload_n 0, 1) := by decide +kernel
theorem dX3_only_44 : decode cX3_only 44 = .ok (.getfield 21, 3) := by decide +kernel
theorem dX3_only_47 : decode cX3_only 47 = .ok (.aload_n 3, 1) := by decide +kernel
theorem dX3_only_48 : decode cX3_only 48 = .ok (.invokevirtual 100, 3) := by decide +kernel
theorem dX3_only_51 : decode cX3_only 51 = .ok (.iinc 4 1, 3) := by decide +kernel
theorem dX3_only_54 : decode cX3_only 54 = .ok (.goto (-25), 3) := by decide +kernel
theorem dX3_only_57 : decode cX3_only 57 = .ok (.aload_n 0, 1) := by decide +kernel
theorem dX3_only_58 : decode cX3_only 58 = .ok (.dup, 1) := by decide +kernel
theorem dX3_only_59 : decode cX3_only 59 = .ok (.getfield 106, 3) := by decide +kernel
theorem dX3_only_62 : decode cX3_only 62 = .ok (.iload 4, 2) := by decide +kernel
theorem dX3_only_64 : decode cX3_only 64 = .ok (.iadd, 1) := by decide +kernel
theorem dX3_only_65 : decode cX3_only 65 = .ok (.putfield 106, 3) := by decide +kernel
theorem dX3_only_68 : decode cX3_only 68 = .ok (.iload 4, 2) := by decide +kernel
theorem dX3_only_70 : decode cX3_only 70 = .ok (.ireturn, 1) := by decide +kernel
theorem dX3_state_0 : decode cX3_state 0 = .ok (.aload_n 0, 1) := by decide +kernel
theorem dX3_state_1 : decode cX3_state 1 = .ok (.iload_n 1, 1) := by decide +kernel
theorem dX3_state_2 : decode cX3_state 2 = .ok (.invokevirtual 51, 3) := by decide +kernel
theorem dX3_state_5 : decode cX3_state 5 = .ok (.astore_n 2, 1) := by decide +kernel
theorem dX3_state_6 : decode cX3_state 6 = .ok (.aload_n 2, 1) := by decide +kernel
theorem dX3_state_7 : decode cX3_state 7 = .ok (.ifnonnull 8, 3) := by decide +kernel
theorem dX3_state_10 : decode cX3_state 10 = .ok (.bipush (-14), 2) := by decide +kernel
theorem dX3_state_12 : decode cX3_state 12 = .ok (.goto 7, 3) := by decide +kernel
theorem dX3_state_15 : decode cX3_state 15 = .ok (.aload_n 2, 1) := by decide +kernel
theorem dX3_state_16 : decode cX3_state 16 = .ok (.getfield 54, 3) := by decide +kernel
theorem dX3_state_19 : decode cX3_state 19 = .ok (.ireturn, 1) := by decide +kernel
theorem dX3_told_0 : decode cX3_told 0 = .ok (.aload_n 0, 1) := by decide +kernel
theorem dX3_told_1 : decode cX3_told 1 = .ok (.iload_n 1, 1) := by decide +kernel
theorem dX3_told_2 : decode cX3_told 2 = .ok (.invokevirtual 51, 3) := by decide +kernel
theorem dX3_told_5 : decode cX3_told 5 = .ok (.astore_n 3, 1) := by decide +kernel
theorem dX3_told_6 : decode cX3_told 6 = .ok (.aload_n 3, 1) := by decide +kernel
theorem dX3_told_7 : decode cX3_told 7 = .ok (.ifnonnull 7, 3) := by decide +kernel
theorem dX3_told_10 : decode cX3_told 10 = .ok (.iconst 0, 1) := by decide +kernel
theorem dX3_told_11 : decode cX3_told 11 = .ok (.goto 8, 3) := by decide +kernel
theorem dX3_told_14 : decode cX3_told 14 = .ok (.aload_n 3, 1) := by decide +kernel
theorem dX3_told_15 : decode cX3_told 15 = .ok (.iload_n 2, 1) := by decide +kernel
theorem dX3_told_16 : decode cX3_told 16 = .ok (.invokevirtual 109, 3) := by decide +kernel
theorem dX3_told_19 : decode cX3_told 19 = .ok (.ireturn, 1) := by decide +kernel
theorem dX3_peek_0 : decode cX3_peek 0 = .ok (.aload_n 0, 1) := by decide +kernel
theorem dX3_peek_1 : decode cX3_peek 1 = .ok (.iload_n 1, 1) := by decide +kernel
theorem dX3_peek_2 : decode cX3_peek 2 = .ok (.invokevirtual 51, 3) := by decide +kernel
theorem dX3_peek_5 : decode cX3_peek 5 = .ok (.astore_n 3, 1) := by decide +kernel
theorem dX3_peek_6 : decode cX3_peek 6 = .ok (.aload_n 3, 1) := by decide +kernel
theorem dX3_peek_7 : decode cX3_peek 7 = .ok (.ifnonnull 7, 3) := by decide +kernel
theorem dX3_peek_10 : decode cX3_peek 10 = .ok (.iconst 0, 1) := by decide +kernel
theorem dX3_peek_11 : decode cX3_peek 11 = .ok (.goto 12, 3) := by decide +kernel
theorem dX3_peek_14 : decode cX3_peek 14 = .ok (.aload_n 0, 1) := by decide +kernel
theorem dX3_peek_15 : decode cX3_peek 15 = .ok (.getfield 12, 3) := by decide +kernel
theorem dX3_peek_18 : decode cX3_peek 18 = .ok (.aload_n 3, 1) := by decide +kernel
theorem dX3_peek_19 : decode cX3_peek 19 = .ok (.iload_n 2, 1) := by decide +kernel
theorem dX3_peek_20 : decode cX3_peek 20 = .ok (.invokevirtual 113, 3) := by decide +kernel
theorem dX3_peek_23 : decode cX3_peek 23 = .ok (.ireturn, 1) := by decide +kernel
theorem dX3_disk_0 : decode cX3_disk 0 = .ok (.aload_n 0, 1) := by decide +kernel
theorem dX3_disk_1 : decode cX3_disk 1 = .ok (.iload_n 1, 1) := by decide +kernel
theorem dX3_disk_2 : decode cX3_disk 2 = .ok (.invokevirtual 51, 3) := by decide +kernel
theorem dX3_disk_5 : decode cX3_disk 5 = .ok (.astore_n 3, 1) := by decide +kernel
theorem dX3_disk_6 : decode cX3_disk 6 = .ok (.aload_n 3, 1) := by decide +kernel
theorem dX3_disk_7 : decode cX3_disk 7 = .ok (.ifnull 16, 3) := by decide +kernel
theorem dX3_disk_10 : decode cX3_disk 10 = .ok (.iload_n 2, 1) := by decide +kernel
theorem dX3_disk_11 : decode cX3_disk 11 = .ok (.ifCond .lt 12, 3) := by decide +kernel
theorem dX3_disk_14 : decode cX3_disk 14 = .ok (.iload_n 2, 1) := by decide +kernel
theorem dX3_disk_15 : decode cX3_disk 15 = .ok (.aload_n 3, 1) := by decide +kernel
theorem dX3_disk_16 : decode cX3_disk 16 = .ok (.getfield 66, 3) := by decide +kernel
theorem dX3_disk_19 : decode cX3_disk 19 = .ok (.arraylength, 1) := by decide +kernel
theorem dX3_disk_20 : decode cX3_disk 20 = .ok (.if_icmp .lt 7, 3) := by decide +kernel
theorem dX3_disk_23 : decode cX3_disk 23 = .ok (.iconst 0, 1) := by decide +kernel
theorem dX3_disk_24 : decode cX3_disk 24 = .ok (.goto 9, 3) := by decide +kernel
theorem dX3_disk_27 : decode cX3_disk 27 = .ok (.aload_n 3, 1) := by decide +kernel
theorem dX3_disk_28 : decode cX3_disk 28 = .ok (.getfield 66, 3) := by decide +kernel
theorem dX3_disk_31 : decode cX3_disk 31 = .ok (.iload_n 2, 1) := by decide +kernel
theorem dX3_disk_32 : decode cX3_disk 32 = .ok (.iaload, 1) := by decide +kernel
theorem dX3_disk_33 : decode cX3_disk 33 = .ok (.ireturn, 1) := by decide +kernel
theorem dX3_out_0 : decode cX3_out 0 = .ok (.aload_n 0, 1) := by decide +kernel
theorem dX3_out_1 : decode cX3_out 1 = .ok (.iload_n 1, 1) := by decide +kernel
theorem dX3_out_2 : decode cX3_out 2 = .ok (.invokevirtual 51, 3) := by decide +kernel
theorem dX3_out_5 : decode cX3_out 5 = .ok (.astore_n 3, 1) := by decide +kernel
theorem dX3_out_6 : decode cX3_out 6 = .ok (.aload_n 3, 1) := by decide +kernel
theorem dX3_out_7 : decode cX3_out 7 = .ok (.ifnull 15, 3) := by decide +kernel
theorem dX3_out_10 : decode cX3_out 10 = .ok (.iload_n 2, 1) := by decide +kernel
theorem dX3_out_11 : decode cX3_out 11 = .ok (.ifCond .lt 11, 3) := by decide +kernel
theorem dX3_out_14 : decode cX3_out 14 = .ok (.iload_n 2, 1) := by decide +kernel
theorem dX3_out_15 : decode cX3_out 15 = .ok (.aload_n 3, 1) := by decide +kernel
theorem dX3_out_16 : decode cX3_out 16 = .ok (.invokevirtual 117, 3) := by decide +kernel
theorem dX3_out_19 : decode cX3_out 19 = .ok (.if_icmp .lt 7, 3) := by decide +kernel
theorem dX3_out_22 : decode cX3_out 22 = .ok (.iconst 0, 1) := by decide +kernel
theorem dX3_out_23 : decode cX3_out 23 = .ok (.goto 9, 3) := by decide +kernel
theorem dX3_out_26 : decode cX3_out 26 = .ok (.aload_n 3, 1) := by decide +kernel
theorem dX3_out_27 : decode cX3_out 27 = .ok (.getfield 120, 3) := by decide +kernel
theorem dX3_out_30 : decode cX3_out 30 = .ok (.iload_n 2, 1) := by decide +kernel
theorem dX3_out_31 : decode cX3_out 31 = .ok (.iaload, 1) := by decide +kernel
theorem dX3_out_32 : decode cX3_out 32 = .ok (.ireturn, 1) := by decide +kernel
theorem dX3_cached_0 : decode cX3_cached 0 = .ok (.aload_n 0, 1) := by decide +kernel
theorem dX3_cached_1 : decode cX3_cached 1 = .ok (.iload_n 1, 1) := by decide +kernel
theorem dX3_cached_2 : decode cX3_cached 2 = .ok (.invokevirtual 51, 3) := by decide +kernel
theorem dX3_cached_5 : decode cX3_cached 5 = .ok (.astore_n 3, 1) := by decide +kernel
theorem dX3_cached_6 : decode cX3_cached 6 = .ok (.aload_n 3, 1) := by decide +kernel
theorem dX3_cached_7 : decode cX3_cached 7 = .ok (.ifnull 14, 3) := by decide +kernel
theorem dX3_cached_10 : decode cX3_cached 10 = .ok (.iload_n 2, 1) := by decide +kernel
theorem dX3_cached_11 : decode cX3_cached 11 = .ok (.ifCond .lt 10, 3) := by decide +kernel
theorem dX3_cached_14 : decode cX3_cached 14 = .ok (.iload_n 2, 1) := by decide +kernel
theorem dX3_cached_15 : decode cX3_cached 15 = .ok (.sipush 256, 3) := by decide +kernel
theorem dX3_cached_18 : decode cX3_cached 18 = .ok (.if_icmp .lt 7, 3) := by decide +kernel
theorem dX3_cached_21 : decode cX3_cached 21 = .ok (.iconst (-1), 1) := by decide +kernel
theorem dX3_cached_22 : decode cX3_cached 22 = .ok (.goto 9, 3) := by decide +kernel
theorem dX3_cached_25 : decode cX3_cached 25 = .ok (.aload_n 3, 1) := by decide +kernel
theorem dX3_cached_26 : decode cX3_cached 26 = .ok (.getfield 123, 3) := by decide +kernel
theorem dX3_cached_29 : decode cX3_cached 29 = .ok (.iload_n 2, 1) := by decide +kernel
theorem dX3_cached_30 : decode cX3_cached 30 = .ok (.iaload, 1) := by decide +kernel
theorem dX3_cached_31 : decode cX3_cached 31 = .ok (.ireturn, 1) := by decide +kernel
theorem dX3_house_0 : decode cX3_house 0 = .ok (.iload_n 1, 1) := by decide +kernel
theorem dX3_house_1 : decode cX3_house 1 = .ok (.tableswitch 51 0 3 #[31, 36, 41, 46], 31) := by decide +kernel
theorem dX3_house_32 : decode cX3_house 32 = .ok (.aload_n 0, 1) := by decide +kernel
theorem dX3_house_33 : decode cX3_house 33 = .ok (.getfield 126, 3) := by decide +kernel
theorem dX3_house_36 : decode cX3_house 36 = .ok (.ireturn, 1) := by decide +kernel
theorem dX3_house_37 : decode cX3_house 37 = .ok (.aload_n 0, 1) := by decide +kernel
theorem dX3_house_38 : decode cX3_house 38 = .ok (.getfield 103, 3) := by decide +kernel
theorem dX3_house_41 : decode cX3_house 41 = .ok (.ireturn, 1) := by decide +kernel
theorem dX3_house_42 : decode cX3_house 42 = .ok (.aload_n 0, 1) := by decide +kernel
theorem dX3_house_43 : decode cX3_house 43 = .ok (.invokevirtual 129, 3) := by decide +kernel
theorem dX3_house_46 : decode cX3_house 46 = .ok (.ireturn, 1) := by decide +kernel
theorem dX3_house_47 : decode cX3_house 47 = .ok (.aload_n 0, 1) := by decide +kernel
theorem dX3_house_48 : decode cX3_house 48 = .ok (.getfield 106, 3) := by decide +kernel
theorem dX3_house_51 : decode cX3_house 51 = .ok (.ireturn, 1) := by decide +kernel
theorem dX3_house_52 : decode cX3_house 52 = .ok (.iconst 0, 1) := by decide +kernel
theorem dX3_house_53 : decode cX3_house 53 = .ok (.ireturn, 1) := by decide +kernel
theorem dX3_audit_0 : decode cX3_audit 0 = .ok (.aload_n 0, 1) := by decide +kernel
theorem dX3_audit_1 : decode cX3_audit 1 = .ok (.getfield 12, 3) := by decide +kernel
theorem dX3_audit_4 : decode cX3_audit 4 = .ok (.aload_n 0, 1) := by decide +kernel
theorem dX3_audit_5 : decode cX3_audit 5 = .ok (.getfield 27, 3) := by decide +kernel
theorem dX3_audit_8 : decode cX3_audit 8 = .ok (.invokevirtual 132, 3) := by decide +kernel
theorem dX3_audit_11 : decode cX3_audit 11 = .ok (.istore_n 1, 1) := by decide +kernel
theorem dX3_audit_12 : decode cX3_audit 12 = .ok (.iconst 0, 1) := by decide +kernel
theorem dX3_audit_13 : decode cX3_audit 13 = .ok (.istore_n 2, 1) := by decide +kernel
theorem dX3_audit_14 : decode cX3_audit 14 = .ok (.iload_n 2, 1) := by decide +kernel
theorem dX3_audit_15 : decode cX3_audit 15 = .ok (.bipush 8, 2) := by decide +kernel
theorem dX3_audit_17 : decode cX3_audit 17 = .ok (.if_icmp .ge 30, 3) := by decide +kernel
theorem dX3_audit_20 : decode cX3_audit 20 = .ok (.aload_n 0, 1) := by decide +kernel
theorem dX3_audit_21 : decode cX3_audit 21 = .ok (.iload_n 2, 1) := by decide +kernel
theorem dX3_audit_22 : decode cX3_audit 22 = .ok (.invokevirtual 51, 3) := by decide +kernel
theorem dX3_audit_25 : decode cX3_audit 25 = .ok (.astore_n 3, 1) := by decide +kernel
theorem dX3_audit_26 : decode cX3_audit 26 = .ok (.iload_n 1, 1) := by decide +kernel
theorem dX3_audit_27 : decode cX3_audit 27 = .ok (.aload_n 3, 1) := by decide +kernel
theorem dX3_audit_28 : decode cX3_audit 28 = .ok (.ifnonnull 7, 3) := by decide +kernel
theorem dX3_audit_31 : decode cX3_audit 31 = .ok (.iconst 0, 1) := by decide +kernel
theorem dX3_audit_32 : decode cX3_audit 32 = .ok (.goto 7, 3) := by decide +kernel
theorem dX3_audit_35 : decode cX3_audit 35 = .ok (.aload_n 3, 1) := by decide +kernel
theorem dX3_audit_36 : decode cX3_audit 36 = .ok (.invokevirtual 136, 3) := by decide +kernel
theorem dX3_audit_39 : decode cX3_audit 39 = .ok (.iadd, 1) := by decide +kernel
theorem dX3_audit_40 : decode cX3_audit 40 = .ok (.istore_n 1, 1) := by decide +kernel
theorem dX3_audit_41 : decode cX3_audit 41 = .ok (.iinc 2 1, 3) := by decide +kernel
theorem dX3_audit_44 : decode cX3_audit 44 = .ok (.goto (-30), 3) := by decide +kernel
theorem dX3_audit_47 : decode cX3_audit 47 = .ok (.iload_n 1, 1) := by decide +kernel
theorem dX3_audit_48 : decode cX3_audit 48 = .ok (.ireturn, 1) := by decide +kernel
theorem dX3_settle_0 : decode cX3_settle 0 = .ok (.aload_n 0, 1) := by decide +kernel
theorem dX3_settle_1 : decode cX3_settle 1 = .ok (.getfield 12, 3) := by decide +kernel
theorem dX3_settle_4 : decode cX3_settle 4 = .ok (.iload_n 1, 1) := by decide +kernel
theorem dX3_settle_5 : decode cX3_settle 5 = .ok (.invokevirtual 138, 3) := by decide +kernel
theorem dX3_settle_8 : decode cX3_settle 8 = .ok (.iconst 0, 1) := by decide +kernel
theorem dX3_settle_9 : decode cX3_settle 9 = .ok (.istore_n 3, 1) := by decide +kernel
theorem dX3_settle_10 : decode cX3_settle 10 = .ok (.iload_n 3, 1) := by decide +kernel
theorem dX3_settle_11 : decode cX3_settle 11 = .ok (.bipush 8, 2) := by decide +kernel
theorem dX3_settle_13 : decode cX3_settle 13 = .ok (.if_icmp .ge 28, 3) := by decide +kernel
theorem dX3_settle_16 : decode cX3_settle 16 = .ok (.aload_n 0, 1) := by decide +kernel
theorem dX3_settle_17 : decode cX3_settle 17 = .ok (.getfield 27, 3) := by decide +kernel
theorem dX3_settle_20 : decode cX3_settle 20 = .ok (.iload_n 3, 1) := by decide +kernel
theorem dX3_settle_21 : decode cX3_settle 21 = .ok (.aaload, 1) := by decide +kernel
theorem dX3_settle_22 : decode cX3_settle 22 = .ok (.ifnull 13, 3) := by decide +kernel
theorem dX3_settle_25 : decode cX3_settle 25 = .ok (.aload_n 0, 1) := by decide +kernel
theorem dX3_settle_26 : decode cX3_settle 26 = .ok (.getfield 27, 3) := by decide +kernel
theorem dX3_settle_29 : decode cX3_settle 29 = .ok (.iload_n 3, 1) := by decide +kernel
theorem dX3_settle_30 : decode cX3_settle 30 = .ok (.aaload, 1) := by decide +kernel
theorem dX3_settle_31 : decode cX3_settle 31 = .ok (.iconst 0, 1) := by decide +kernel
theorem dX3_settle_32 : decode cX3_settle 32 = .ok (.putfield 92, 3) := by decide +kernel
theorem dX3_settle_35 : decode cX3_settle 35 = .ok (.iinc 3 1, 3) := by decide +kernel
theorem dX3_settle_38 : decode cX3_settle 38 = .ok (.goto (-28), 3) := by decide +kernel
theorem dX3_settle_41 : decode cX3_settle 41 = .ok (.aload_n 0, 1) := by decide +kernel
theorem dX3_settle_42 : decode cX3_settle 42 = .ok (.iload_n 2, 1) := by decide +kernel
theorem dX3_settle_43 : decode cX3_settle 43 = .ok (.putfield 139, 3) := by decide +kernel
theorem dX3_settle_46 : decode cX3_settle 46 = .ok (.aload_n 0, 1) := by decide +kernel
theorem dX3_settle_47 : decode cX3_settle 47 = .ok (.bipush 7, 2) := by decide +kernel
theorem dX3_settle_49 : decode cX3_settle 49 = .ok (.putfield 126, 3) := by decide +kernel
theorem dX3_settle_52 : decode cX3_settle 52 = .ok (.aload_n 0, 1) := by decide +kernel
theorem dX3_settle_53 : decode cX3_settle 53 = .ok (.iconst 0, 1) := by decide +kernel
theorem dX3_settle_54 : decode cX3_settle 54 = .ok (.putfield 103, 3) := by decide +kernel
theorem dX3_settle_57 : decode cX3_settle 57 = .ok (.aload_n 0, 1) := by decide +kernel
theorem dX3_settle_58 : decode cX3_settle 58 = .ok (.iconst 0, 1) := by decide +kernel
theorem dX3_settle_59 : decode cX3_settle 59 = .ok (.putfield 106, 3) := by decide +kernel
theorem dX3_settle_62 : decode cX3_settle 62 = .ok (.return_, 1) := by decide +kernel
theorem dX3_find_0 : decode cX3_find 0 = .ok (.iload_n 1, 1) := by decide +kernel
theorem dX3_find_1 : decode cX3_find 1 = .ok (.ifCond .lt 9, 3) := by decide +kernel
theorem dX3_find_4 : decode cX3_find 4 = .ok (.iload_n 1, 1) := by decide +kernel
theorem dX3_find_5 : decode cX3_find 5 = .ok (.bipush 8, 2) := by decide +kernel
theorem dX3_find_7 : decode cX3_find 7 = .ok (.if_icmp .lt 5, 3) := by decide +kernel
theorem dX3_find_10 : decode cX3_find 10 = .ok (.aconst_null, 1) := by decide +kernel
theorem dX3_find_11 : decode cX3_find 11 = .ok (.areturn, 1) := by decide +kernel
theorem dX3_find_12 : decode cX3_find 12 = .ok (.aload_n 0, 1) := by decide +kernel
theorem dX3_find_13 : decode cX3_find 13 = .ok (.getfield 27, 3) := by decide +kernel
theorem dX3_find_16 : decode cX3_find 16 = .ok (.iload_n 1, 1) := by decide +kernel
theorem dX3_find_17 : decode cX3_find 17 = .ok (.aaload, 1) := by decide +kernel
theorem dX3_find_18 : decode cX3_find 18 = .ok (.astore_n 2, 1) := by decide +kernel
theorem dX3_find_19 : decode cX3_find 19 = .ok (.aload_n 2, 1) := by decide +kernel
theorem dX3_find_20 : decode cX3_find 20 = .ok (.ifnull 14, 3) := by decide +kernel
theorem dX3_find_23 : decode cX3_find 23 = .ok (.aload_n 2, 1) := by decide +kernel
theorem dX3_find_24 : decode cX3_find 24 = .ok (.getfield 92, 3) := by decide +kernel
theorem dX3_find_27 : decode cX3_find 27 = .ok (.ifCond .eq 7, 3) := by decide +kernel
theorem dX3_find_30 : decode cX3_find 30 = .ok (.aload_n 2, 1) := by decide +kernel
theorem dX3_find_31 : decode cX3_find 31 = .ok (.goto 4, 3) := by decide +kernel
theorem dX3_find_34 : decode cX3_find 34 = .ok (.aconst_null, 1) := by decide +kernel
theorem dX3_find_35 : decode cX3_find 35 = .ok (.areturn, 1) := by decide +kernel
theorem dX3_leastFree_0 : decode cX3_leastFree 0 = .ok (.iconst 0, 1) := by decide +kernel
theorem dX3_leastFree_1 : decode cX3_leastFree 1 = .ok (.istore_n 1, 1) := by decide +kernel
theorem dX3_leastFree_2 : decode cX3_leastFree 2 = .ok (.iload_n 1, 1) := by decide +kernel
theorem dX3_leastFree_3 : decode cX3_leastFree 3 = .ok (.bipush 8, 2) := by decide +kernel
theorem dX3_leastFree_5 : decode cX3_leastFree 5 = .ok (.if_icmp .ge 19, 3) := by decide +kernel
theorem dX3_leastFree_8 : decode cX3_leastFree 8 = .ok (.aload_n 0, 1) := by decide +kernel
theorem dX3_leastFree_9 : decode cX3_leastFree 9 = .ok (.iload_n 1, 1) := by decide +kernel
theorem dX3_leastFree_10 : decode cX3_leastFree 10 = .ok (.invokevirtual 51, 3) := by decide +kernel
theorem dX3_leastFree_13 : decode cX3_leastFree 13 = .ok (.ifnonnull 5, 3) := by decide +kernel
theorem dX3_leastFree_16 : decode cX3_leastFree 16 = .ok (.iload_n 1, 1) := by decide +kernel
theorem dX3_leastFree_17 : decode cX3_leastFree 17 = .ok (.ireturn, 1) := by decide +kernel
theorem dX3_leastFree_18 : decode cX3_leastFree 18 = .ok (.iinc 1 1, 3) := by decide +kernel
theorem dX3_leastFree_21 : decode cX3_leastFree 21 = .ok (.goto (-19), 3) := by decide +kernel
theorem dX3_leastFree_24 : decode cX3_leastFree 24 = .ok (.iconst (-1), 1) := by decide +kernel
theorem dX3_leastFree_25 : decode cX3_leastFree 25 = .ok (.ireturn, 1) := by decide +kernel
theorem dX3_countGuests_0 : decode cX3_countGuests 0 = .ok (.iconst 0, 1) := by decide +kernel
theorem dX3_countGuests_1 : decode cX3_countGuests 1 = .ok (.istore_n 1, 1) := by decide +kernel
theorem dX3_countGuests_2 : decode cX3_countGuests 2 = .ok (.iconst 0, 1) := by decide +kernel
theorem dX3_countGuests_3 : decode cX3_countGuests 3 = .ok (.istore_n 2, 1) := by decide +kernel
theorem dX3_countGuests_4 : decode cX3_countGuests 4 = .ok (.iload_n 2, 1) := by decide +kernel
theorem dX3_countGuests_5 : decode cX3_countGuests 5 = .ok (.bipush 8, 2) := by decide +kernel
theorem dX3_countGuests_7 : decode cX3_countGuests 7 = .ok (.if_icmp .ge 25, 3) := by decide +kernel
theorem dX3_countGuests_10 : decode cX3_countGuests 10 = .ok (.iload_n 1, 1) := by decide +kernel
theorem dX3_countGuests_11 : decode cX3_countGuests 11 = .ok (.aload_n 0, 1) := by decide +kernel
theorem dX3_countGuests_12 : decode cX3_countGuests 12 = .ok (.iload_n 2, 1) := by decide +kernel
theorem dX3_countGuests_13 : decode cX3_countGuests 13 = .ok (.invokevirtual 51, 3) := by decide +kernel
theorem dX3_countGuests_16 : decode cX3_countGuests 16 = .ok (.ifnonnull 7, 3) := by decide +kernel
theorem dX3_countGuests_19 : decode cX3_countGuests 19 = .ok (.iconst 0, 1) := by decide +kernel
theorem dX3_countGuests_20 : decode cX3_countGuests 20 = .ok (.goto 4, 3) := by decide +kernel
theorem dX3_countGuests_23 : decode cX3_countGuests 23 = .ok (.iconst 1, 1) := by decide +kernel
theorem dX3_countGuests_24 : decode cX3_countGuests 24 = .ok (.iadd, 1) := by decide +kernel
theorem dX3_countGuests_25 : decode cX3_countGuests 25 = .ok (.istore_n 1, 1) := by decide +kernel
theorem dX3_countGuests_26 : decode cX3_countGuests 26 = .ok (.iinc 2 1, 3) := by decide +kernel
theorem dX3_countGuests_29 : decode cX3_countGuests 29 = .ok (.goto (-25), 3) := by decide +kernel
theorem dX3_countGuests_32 : decode cX3_countGuests 32 = .ok (.iload_n 1, 1) := by decide +kernel
theorem dX3_countGuests_33 : decode cX3_countGuests 33 = .ok (.ireturn, 1) := by decide +kernel
theorem dX3_room_0 : decode cX3_room 0 = .ok (.iload_n 1, 1) := by decide +kernel
theorem dX3_room_1 : decode cX3_room 1 = .ok (.bipush 7, 2) := by decide +kernel
theorem dX3_room_3 : decode cX3_room 3 = .ok (.iand, 1) := by decide +kernel
theorem dX3_room_4 : decode cX3_room 4 = .ok (.istore_n 2, 1) := by decide +kernel
theorem dX3_room_5 : decode cX3_room 5 = .ok (.aload_n 0, 1) := by decide +kernel
theorem dX3_room_6 : decode cX3_room 6 = .ok (.getfield 27, 3) := by decide +kernel
theorem dX3_room_9 : decode cX3_room 9 = .ok (.iload_n 2, 1) := by decide +kernel
theorem dX3_room_10 : decode cX3_room 10 = .ok (.aaload, 1) := by decide +kernel
theorem dX3_room_11 : decode cX3_room 11 = .ok (.astore_n 3, 1) := by decide +kernel
theorem dX3_room_12 : decode cX3_room 12 = .ok (.aload_n 3, 1) := by decide +kernel
theorem dX3_room_13 : decode cX3_room 13 = .ok (.ifnonnull 18, 3) := by decide +kernel
theorem dX3_room_16 : decode cX3_room 16 = .ok (.new 25, 3) := by decide +kernel
theorem dX3_room_19 : decode cX3_room 19 = .ok (.dup, 1) := by decide +kernel
theorem dX3_room_20 : decode cX3_room 20 = .ok (.invokespecial 142, 3) := by decide +kernel
theorem dX3_room_23 : decode cX3_room 23 = .ok (.astore_n 3, 1) := by decide +kernel
theorem dX3_room_24 : decode cX3_room 24 = .ok (.aload_n 0, 1) := by decide +kernel
theorem dX3_room_25 : decode cX3_room 25 = .ok (.getfield 27, 3) := by decide +kernel
theorem dX3_room_28 : decode cX3_room 28 = .ok (.iload_n 2, 1) := by decide +kernel
theorem dX3_room_29 : decode cX3_room 29 = .ok (.aload_n 3, 1) := by decide +kernel
theorem dX3_room_30 : decode cX3_room 30 = .ok (.aastore, 1) := by decide +kernel
theorem dX3_room_31 : decode cX3_room 31 = .ok (.aload_n 3, 1) := by decide +kernel
theorem dX3_room_32 : decode cX3_room 32 = .ok (.areturn, 1) := by decide +kernel
theorem dX3_nextTurn_0 : decode cX3_nextTurn 0 = .ok (.aload_n 0, 1) := by decide +kernel
theorem dX3_nextTurn_1 : decode cX3_nextTurn 1 = .ok (.aload_n 0, 1) := by decide +kernel
theorem dX3_nextTurn_2 : decode cX3_nextTurn 2 = .ok (.getfield 126, 3) := by decide +kernel
theorem dX3_nextTurn_5 : decode cX3_nextTurn 5 = .ok (.invokevirtual 51, 3) := by decide +kernel
theorem dX3_nextTurn_8 : decode cX3_nextTurn 8 = .ok (.astore_n 1, 1) := by decide +kernel
theorem dX3_nextTurn_9 : decode cX3_nextTurn 9 = .ok (.aload_n 0, 1) := by decide +kernel
theorem dX3_nextTurn_10 : decode cX3_nextTurn 10 = .ok (.getfield 103, 3) := by decide +kernel
theorem dX3_nextTurn_13 : decode cX3_nextTurn 13 = .ok (.ifCond .le 17, 3) := by decide +kernel
theorem dX3_nextTurn_16 : decode cX3_nextTurn 16 = .ok (.aload_n 1, 1) := by decide +kernel
theorem dX3_nextTurn_17 : decode cX3_nextTurn 17 = .ok (.ifnull 13, 3) := by decide +kernel
theorem dX3_nextTurn_20 : decode cX3_nextTurn 20 = .ok (.aload_n 1, 1) := by decide +kernel
theorem dX3_nextTurn_21 : decode cX3_nextTurn 21 = .ok (.getfield 54, 3) := by decide +kernel
theorem dX3_nextTurn_24 : decode cX3_nextTurn 24 = .ok (.iconst 1, 1) := by decide +kernel
theorem dX3_nextTurn_25 : decode cX3_nextTurn 25 = .ok (.if_icmp .ne 5, 3) := by decide +kernel
theorem dX3_nextTurn_28 : decode cX3_nextTurn 28 = .ok (.aload_n 1, 1) := by decide +kernel
theorem dX3_nextTurn_29 : decode cX3_nextTurn 29 = .ok (.areturn, 1) := by decide +kernel
theorem dX3_nextTurn_30 : decode cX3_nextTurn 30 = .ok (.iconst 1, 1) := by decide +kernel
theorem dX3_nextTurn_31 : decode cX3_nextTurn 31 = .ok (.istore_n 2, 1) := by decide +kernel
theorem dX3_nextTurn_32 : decode cX3_nextTurn 32 = .ok (.iload_n 2, 1) := by decide +kernel
theorem dX3_nextTurn_33 : decode cX3_nextTurn 33 = .ok (.bipush 8, 2) := by decide +kernel
theorem dX3_nextTurn_35 : decode cX3_nextTurn 35 = .ok (.if_icmp .gt 52, 3) := by decide +kernel
theorem dX3_nextTurn_38 : decode cX3_nextTurn 38 = .ok (.aload_n 0, 1) := by decide +kernel
theorem dX3_nextTurn_39 : decode cX3_nextTurn 39 = .ok (.getfield 126, 3) := by decide +kernel
theorem dX3_nextTurn_42 : decode cX3_nextTurn 42 = .ok (.iload_n 2, 1) := by decide +kernel
theorem dX3_nextTurn_43 : decode cX3_nextTurn 43 = .ok (.iadd, 1) := by decide +kernel
theorem dX3_nextTurn_44 : decode cX3_nextTurn 44 = .ok (.bipush 8, 2) := by decide +kernel
theorem dX3_nextTurn_46 : decode cX3_nextTurn 46 = .ok (.irem, 1) := by decide +kernel
theorem dX3_nextTurn_47 : decode cX3_nextTurn 47 = .ok (.istore_n 3, 1) := by decide +kernel
theorem dX3_nextTurn_48 : decode cX3_nextTurn 48 = .ok (.aload_n 0, 1) := by decide +kernel
theorem dX3_nextTurn_49 : decode cX3_nextTurn 49 = .ok (.iload_n 3, 1) := by decide +kernel
theorem dX3_nextTurn_50 : decode cX3_nextTurn 50 = .ok (.invokevirtual 51, 3) := by decide +kernel
theorem dX3_nextTurn_53 : decode cX3_nextTurn 53 = .ok (.astore_n 1, 1) := by decide +kernel
theorem dX3_nextTurn_54 : decode cX3_nextTurn 54 = .ok (.aload_n 1, 1) := by decide +kernel
theorem dX3_nextTurn_55 : decode cX3_nextTurn 55 = .ok (.ifnull 26, 3) := by decide +kernel
theorem dX3_nextTurn_58 : decode cX3_nextTurn 58 = .ok (.aload_n 1, 1) := by decide +kernel
theorem dX3_nextTurn_59 : decode cX3_nextTurn 59 = .ok (.getfield 54, 3) := by decide +kernel
theorem dX3_nextTurn_62 : decode cX3_nextTurn 62 = .ok (.iconst 1, 1) := by decide +kernel
theorem dX3_nextTurn_63 : decode cX3_nextTurn 63 = .ok (.if_icmp .ne 18, 3) := by decide +kernel
theorem dX3_nextTurn_66 : decode cX3_nextTurn 66 = .ok (.aload_n 0, 1) := by decide +kernel
theorem dX3_nextTurn_67 : decode cX3_nextTurn 67 = .ok (.iload_n 3, 1) := by decide +kernel
theorem dX3_nextTurn_68 : decode cX3_nextTurn 68 = .ok (.putfield 126, 3) := by decide +kernel
theorem dX3_nextTurn_71 : decode cX3_nextTurn 71 = .ok (.aload_n 0, 1) := by decide +kernel
theorem dX3_nextTurn_72 : decode cX3_nextTurn 72 = .ok (.aload_n 0, 1) := by decide +kernel
theorem dX3_nextTurn_73 : decode cX3_nextTurn 73 = .ok (.getfield 139, 3) := by decide +kernel
theorem dX3_nextTurn_76 : decode cX3_nextTurn 76 = .ok (.putfield 103, 3) := by decide +kernel
theorem dX3_nextTurn_79 : decode cX3_nextTurn 79 = .ok (.aload_n 1, 1) := by decide +kernel
theorem dX3_nextTurn_80 : decode cX3_nextTurn 80 = .ok (.areturn, 1) := by decide +kernel
theorem dX3_nextTurn_81 : decode cX3_nextTurn 81 = .ok (.iinc 2 1, 3) := by decide +kernel
theorem dX3_nextTurn_84 : decode cX3_nextTurn 84 = .ok (.goto (-52), 3) := by decide +kernel
theorem dX3_nextTurn_87 : decode cX3_nextTurn 87 = .ok (.aconst_null, 1) := by decide +kernel
theorem dX3_nextTurn_88 : decode cX3_nextTurn 88 = .ok (.areturn, 1) := by decide +kernel
