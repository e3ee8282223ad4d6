theorem d_N_block_0 : decode b_N_block 0 = .ok (.aload_n 0, 1) := by decide +kernel
theorem d_N_block_1 : decode b_N_block 1 = .ok (.getfield 12, 3) := by decide +kernel
theorem d_N_block_4 : decode b_N_block 4 = .ok (.getfield 65, 3) := by decide +kernel
theorem d_N_block_7 : decode b_N_block 7 = .ok (.bipush 10, 2) := by decide +kernel
theorem d_N_block_9 : decode b_N_block 9 = .ok (.if_icmp .lt 13, 3) := by decide +kernel
theorem d_N_block_12 : decode b_N_block 12 = .ok (.new 69, 3) := by decide +kernel
theorem d_N_block_15 : decode b_N_block 15 = .ok (.dup, 1) := by decide +kernel
theorem d_N_block_16 : decode b_N_block 16 = .ok (.ldc 71, 2) := by decide +kernel
theorem d_N_block_18 : decode b_N_block 18 = .ok (.invokespecial 73, 3) := by decide +kernel
theorem d_N_block_21 : decode b_N_block 21 = .ok (.athrow, 1) := by decide +kernel
theorem d_N_block_22 : decode b_N_block 22 = .ok (.aload_n 0, 1) := by decide +kernel
theorem d_N_block_23 : decode b_N_block 23 = .ok (.iconst 0, 1) := by decide +kernel
theorem d_N_block_24 : decode b_N_block 24 = .ok (.putfield 61, 3) := by decide +kernel
theorem d_N_block_27 : decode b_N_block 27 = .ok (.aload_n 0, 1) := by decide +kernel
theorem d_N_block_28 : decode b_N_block 28 = .ok (.getfield 12, 3) := by decide +kernel
theorem d_N_block_31 : decode b_N_block 31 = .ok (.invokevirtual 76, 3) := by decide +kernel
theorem d_N_block_34 : decode b_N_block 34 = .ok (.ireturn, 1) := by decide +kernel
theorem d_N_put_0 : decode b_N_put 0 = .ok (.aload_n 0, 1) := by decide +kernel
theorem d_N_put_1 : decode b_N_put 1 = .ok (.getfield 12, 3) := by decide +kernel
theorem d_N_put_4 : decode b_N_put 4 = .ok (.iload_n 1, 1) := by decide +kernel
theorem d_N_put_5 : decode b_N_put 5 = .ok (.invokevirtual 80, 3) := by decide +kernel
theorem d_N_put_8 : decode b_N_put 8 = .ok (.ifCond .eq 15, 3) := by decide +kernel
theorem d_N_put_11 : decode b_N_put 11 = .ok (.iload_n 2, 1) := by decide +kernel
theorem d_N_put_12 : decode b_N_put 12 = .ok (.iload_n 3, 1) := by decide +kernel
theorem d_N_put_13 : decode b_N_put 13 = .ok (.iload 4, 2) := by decide +kernel
theorem d_N_put_15 : decode b_N_put 15 = .ok (.iload 5, 2) := by decide +kernel
theorem d_N_put_17 : decode b_N_put 17 = .ok (.invokestatic 84, 3) := by decide +kernel
theorem d_N_put_20 : decode b_N_put 20 = .ok (.ifCond .ne 13, 3) := by decide +kernel
theorem d_N_put_23 : decode b_N_put 23 = .ok (.new 88, 3) := by decide +kernel
theorem d_N_put_26 : decode b_N_put 26 = .ok (.dup, 1) := by decide +kernel
theorem d_N_put_27 : decode b_N_put 27 = .ok (.ldc 90, 2) := by decide +kernel
theorem d_N_put_29 : decode b_N_put 29 = .ok (.invokespecial 92, 3) := by decide +kernel
theorem d_N_put_32 : decode b_N_put 32 = .ok (.athrow, 1) := by decide +kernel
theorem d_N_put_33 : decode b_N_put 33 = .ok (.aload_n 0, 1) := by decide +kernel
theorem d_N_put_34 : decode b_N_put 34 = .ok (.getfield 12, 3) := by decide +kernel
theorem d_N_put_37 : decode b_N_put 37 = .ok (.getfield 93, 3) := by decide +kernel
theorem d_N_put_40 : decode b_N_put 40 = .ok (.iload_n 1, 1) := by decide +kernel
theorem d_N_put_41 : decode b_N_put 41 = .ok (.iaload, 1) := by decide +kernel
theorem d_N_put_42 : decode b_N_put 42 = .ok (.bipush 6, 2) := by decide +kernel
theorem d_N_put_44 : decode b_N_put 44 = .ok (.if_icmp .lt 13, 3) := by decide +kernel
theorem d_N_put_47 : decode b_N_put 47 = .ok (.new 69, 3) := by decide +kernel
theorem d_N_put_50 : decode b_N_put 50 = .ok (.dup, 1) := by decide +kernel
theorem d_N_put_51 : decode b_N_put 51 = .ok (.ldc 97, 2) := by decide +kernel
theorem d_N_put_53 : decode b_N_put 53 = .ok (.invokespecial 73, 3) := by decide +kernel
theorem d_N_put_56 : decode b_N_put 56 = .ok (.athrow, 1) := by decide +kernel
theorem d_N_put_57 : decode b_N_put 57 = .ok (.aload_n 0, 1) := by decide +kernel
theorem d_N_put_58 : decode b_N_put 58 = .ok (.iconst 0, 1) := by decide +kernel
theorem d_N_put_59 : decode b_N_put 59 = .ok (.putfield 61, 3) := by decide +kernel
theorem d_N_put_62 : decode b_N_put 62 = .ok (.aload_n 0, 1) := by decide +kernel
theorem d_N_put_63 : decode b_N_put 63 = .ok (.getfield 12, 3) := by decide +kernel
theorem d_N_put_66 : decode b_N_put 66 = .ok (.iload_n 1, 1) := by decide +kernel
theorem d_N_put_67 : decode b_N_put 67 = .ok (.iload_n 2, 1) := by decide +kernel
theorem d_N_put_68 : decode b_N_put 68 = .ok (.iload_n 3, 1) := by decide +kernel
theorem d_N_put_69 : decode b_N_put 69 = .ok (.iload 4, 2) := by decide +kernel
theorem d_N_put_71 : decode b_N_put 71 = .ok (.iload 5, 2) := by decide +kernel
theorem d_N_put_73 : decode b_N_put 73 = .ok (.invokevirtual 99, 3) := by decide +kernel
theorem d_N_put_76 : decode b_N_put 76 = .ok (.ireturn, 1) := by decide +kernel
theorem d_N_go_0 : decode b_N_go 0 = .ok (.aload_n 0, 1) := by decide +kernel
theorem d_N_go_1 : decode b_N_go 1 = .ok (.getfield 12, 3) := by decide +kernel
theorem d_N_go_4 : decode b_N_go 4 = .ok (.iload_n 1, 1) := by decide +kernel
theorem d_N_go_5 : decode b_N_go 5 = .ok (.invokevirtual 80, 3) := by decide +kernel
theorem d_N_go_8 : decode b_N_go 8 = .ok (.ifCond .eq 14, 3) := by decide +kernel
theorem d_N_go_11 : decode b_N_go 11 = .ok (.aload_n 0, 1) := by decide +kernel
theorem d_N_go_12 : decode b_N_go 12 = .ok (.getfield 12, 3) := by decide +kernel
theorem d_N_go_15 : decode b_N_go 15 = .ok (.iload_n 2, 1) := by decide +kernel
theorem d_N_go_16 : decode b_N_go 16 = .ok (.invokevirtual 103, 3) := by decide +kernel
theorem d_N_go_19 : decode b_N_go 19 = .ok (.ifCond .ne 13, 3) := by decide +kernel
theorem d_N_go_22 : decode b_N_go 22 = .ok (.new 88, 3) := by decide +kernel
theorem d_N_go_25 : decode b_N_go 25 = .ok (.dup, 1) := by decide +kernel
theorem d_N_go_26 : decode b_N_go 26 = .ok (.ldc 106, 2) := by decide +kernel
theorem d_N_go_28 : decode b_N_go 28 = .ok (.invokespecial 92, 3) := by decide +kernel
theorem d_N_go_31 : decode b_N_go 31 = .ok (.athrow, 1) := by decide +kernel
theorem d_N_go_32 : decode b_N_go 32 = .ok (.aload_n 0, 1) := by decide +kernel
theorem d_N_go_33 : decode b_N_go 33 = .ok (.iconst 0, 1) := by decide +kernel
theorem d_N_go_34 : decode b_N_go 34 = .ok (.putfield 61, 3) := by decide +kernel
theorem d_N_go_37 : decode b_N_go 37 = .ok (.aload_n 0, 1) := by decide +kernel
theorem d_N_go_38 : decode b_N_go 38 = .ok (.getfield 12, 3) := by decide +kernel
theorem d_N_go_41 : decode b_N_go 41 = .ok (.iload_n 1, 1) := by decide +kernel
theorem d_N_go_42 : decode b_N_go 42 = .ok (.iconst 1, 1) := by decide +kernel
theorem d_N_go_43 : decode b_N_go 43 = .ok (.iconst 0, 1) := by decide +kernel
theorem d_N_go_44 : decode b_N_go 44 = .ok (.iload_n 2, 1) := by decide +kernel
theorem d_N_go_45 : decode b_N_go 45 = .ok (.iload_n 2, 1) := by decide +kernel
theorem d_N_go_46 : decode b_N_go 46 = .ok (.invokevirtual 108, 3) := by decide +kernel
theorem d_N_go_49 : decode b_N_go 49 = .ok (.return_, 1) := by decide +kernel
theorem d_N_fork_0 : decode b_N_fork 0 = .ok (.aload_n 0, 1) := by decide +kernel
theorem d_N_fork_1 : decode b_N_fork 1 = .ok (.getfield 12, 3) := by decide +kernel
theorem d_N_fork_4 : decode b_N_fork 4 = .ok (.iload_n 1, 1) := by decide +kernel
theorem d_N_fork_5 : decode b_N_fork 5 = .ok (.invokevirtual 80, 3) := by decide +kernel
theorem d_N_fork_8 : decode b_N_fork 8 = .ok (.ifCond .eq 33, 3) := by decide +kernel
theorem d_N_fork_11 : decode b_N_fork 11 = .ok (.iload_n 2, 1) := by decide +kernel
theorem d_N_fork_12 : decode b_N_fork 12 = .ok (.invokestatic 112, 3) := by decide +kernel
theorem d_N_fork_15 : decode b_N_fork 15 = .ok (.ifCond .eq 26, 3) := by decide +kernel
theorem d_N_fork_18 : decode b_N_fork 18 = .ok (.aload_n 0, 1) := by decide +kernel
theorem d_N_fork_19 : decode b_N_fork 19 = .ok (.getfield 12, 3) := by decide +kernel
theorem d_N_fork_22 : decode b_N_fork 22 = .ok (.iload_n 3, 1) := by decide +kernel
theorem d_N_fork_23 : decode b_N_fork 23 = .ok (.invokevirtual 103, 3) := by decide +kernel
theorem d_N_fork_26 : decode b_N_fork 26 = .ok (.ifCond .eq 15, 3) := by decide +kernel
theorem d_N_fork_29 : decode b_N_fork 29 = .ok (.aload_n 0, 1) := by decide +kernel
theorem d_N_fork_30 : decode b_N_fork 30 = .ok (.getfield 12, 3) := by decide +kernel
theorem d_N_fork_33 : decode b_N_fork 33 = .ok (.iload 4, 2) := by decide +kernel
theorem d_N_fork_35 : decode b_N_fork 35 = .ok (.invokevirtual 103, 3) := by decide +kernel
theorem d_N_fork_38 : decode b_N_fork 38 = .ok (.ifCond .ne 13, 3) := by decide +kernel
theorem d_N_fork_41 : decode b_N_fork 41 = .ok (.new 88, 3) := by decide +kernel
theorem d_N_fork_44 : decode b_N_fork 44 = .ok (.dup, 1) := by decide +kernel
theorem d_N_fork_45 : decode b_N_fork 45 = .ok (.ldc 115, 2) := by decide +kernel
theorem d_N_fork_47 : decode b_N_fork 47 = .ok (.invokespecial 92, 3) := by decide +kernel
theorem d_N_fork_50 : decode b_N_fork 50 = .ok (.athrow, 1) := by decide +kernel
theorem d_N_fork_51 : decode b_N_fork 51 = .ok (.aload_n 0, 1) := by decide +kernel
theorem d_N_fork_52 : decode b_N_fork 52 = .ok (.iconst 0, 1) := by decide +kernel
theorem d_N_fork_53 : decode b_N_fork 53 = .ok (.putfield 61, 3) := by decide +kernel
theorem d_N_fork_56 : decode b_N_fork 56 = .ok (.aload_n 0, 1) := by decide +kernel
theorem d_N_fork_57 : decode b_N_fork 57 = .ok (.getfield 12, 3) := by decide +kernel
theorem d_N_fork_60 : decode b_N_fork 60 = .ok (.iload_n 1, 1) := by decide +kernel
theorem d_N_fork_61 : decode b_N_fork 61 = .ok (.iconst 2, 1) := by decide +kernel
theorem d_N_fork_62 : decode b_N_fork 62 = .ok (.iload_n 2, 1) := by decide +kernel
theorem d_N_fork_63 : decode b_N_fork 63 = .ok (.iload_n 3, 1) := by decide +kernel
theorem d_N_fork_64 : decode b_N_fork 64 = .ok (.iload 4, 2) := by decide +kernel
theorem d_N_fork_66 : decode b_N_fork 66 = .ok (.invokevirtual 108, 3) := by decide +kernel
theorem d_N_fork_69 : decode b_N_fork 69 = .ok (.return_, 1) := by decide +kernel
theorem d_N_stop_0 : decode b_N_stop 0 = .ok (.aload_n 0, 1) := by decide +kernel
theorem d_N_stop_1 : decode b_N_stop 1 = .ok (.getfield 12, 3) := by decide +kernel
theorem d_N_stop_4 : decode b_N_stop 4 = .ok (.iload_n 1, 1) := by decide +kernel
theorem d_N_stop_5 : decode b_N_stop 5 = .ok (.invokevirtual 80, 3) := by decide +kernel
theorem d_N_stop_8 : decode b_N_stop 8 = .ok (.ifCond .ne 13, 3) := by decide +kernel
theorem d_N_stop_11 : decode b_N_stop 11 = .ok (.new 88, 3) := by decide +kernel
theorem d_N_stop_14 : decode b_N_stop 14 = .ok (.dup, 1) := by decide +kernel
theorem d_N_stop_15 : decode b_N_stop 15 = .ok (.ldc 117, 2) := by decide +kernel
theorem d_N_stop_17 : decode b_N_stop 17 = .ok (.invokespecial 92, 3) := by decide +kernel
theorem d_N_stop_20 : decode b_N_stop 20 = .ok (.athrow, 1) := by decide +kernel
theorem d_N_stop_21 : decode b_N_stop 21 = .ok (.aload_n 0, 1) := by decide +kernel
theorem d_N_stop_22 : decode b_N_stop 22 = .ok (.iconst 0, 1) := by decide +kernel
theorem d_N_stop_23 : decode b_N_stop 23 = .ok (.putfield 61, 3) := by decide +kernel
theorem d_N_stop_26 : decode b_N_stop 26 = .ok (.aload_n 0, 1) := by decide +kernel
theorem d_N_stop_27 : decode b_N_stop 27 = .ok (.getfield 12, 3) := by decide +kernel
theorem d_N_stop_30 : decode b_N_stop 30 = .ok (.iload_n 1, 1) := by decide +kernel
theorem d_N_stop_31 : decode b_N_stop 31 = .ok (.iconst 0, 1) := by decide +kernel
theorem d_N_stop_32 : decode b_N_stop 32 = .ok (.iconst 0, 1) := by decide +kernel
theorem d_N_stop_33 : decode b_N_stop 33 = .ok (.iconst 0, 1) := by decide +kernel
theorem d_N_stop_34 : decode b_N_stop 34 = .ok (.iconst 0, 1) := by decide +kernel
theorem d_N_stop_35 : decode b_N_stop 35 = .ok (.invokevirtual 108, 3) := by decide +kernel
theorem d_N_stop_38 : decode b_N_stop 38 = .ok (.return_, 1) := by decide +kernel
theorem d_N_clear_0 : decode b_N_clear 0 = .ok (.aload_n 0, 1) := by decide +kernel
theorem d_N_clear_1 : decode b_N_clear 1 = .ok (.iconst 0, 1) := by decide +kernel
theorem d_N_clear_2 : decode b_N_clear 2 = .ok (.putfield 61, 3) := by decide +kernel
theorem d_N_clear_5 : decode b_N_clear 5 = .ok (.aload_n 0, 1) := by decide +kernel
theorem d_N_clear_6 : decode b_N_clear 6 = .ok (.getfield 12, 3) := by decide +kernel
theorem d_N_clear_9 : decode b_N_clear 9 = .ok (.iconst 0, 1) := by decide +kernel
theorem d_N_clear_10 : decode b_N_clear 10 = .ok (.putfield 65, 3) := by decide +kernel
theorem d_N_clear_13 : decode b_N_clear 13 = .ok (.return_, 1) := by decide +kernel
theorem d_N_build_0 : decode b_N_build 0 = .ok (.aload_n 0, 1) := by decide +kernel
theorem d_N_build_1 : decode b_N_build 1 = .ok (.getfield 12, 3) := by decide +kernel
theorem d_N_build_4 : decode b_N_build 4 = .ok (.getfield 65, 3) := by decide +kernel
theorem d_N_build_7 : decode b_N_build 7 = .ok (.ifCond .ne 13, 3) := by decide +kernel
theorem d_N_build_10 : decode b_N_build 10 = .ok (.new 69, 3) := by decide +kernel
theorem d_N_build_13 : decode b_N_build 13 = .ok (.dup, 1) := by decide +kernel
theorem d_N_build_14 : decode b_N_build 14 = .ok (.ldc 119, 2) := by decide +kernel
theorem d_N_build_16 : decode b_N_build 16 = .ok (.invokespecial 73, 3) := by decide +kernel
theorem d_N_build_19 : decode b_N_build 19 = .ok (.athrow, 1) := by decide +kernel
theorem d_N_build_20 : decode b_N_build 20 = .ok (.aload_n 0, 1) := by decide +kernel
theorem d_N_build_21 : decode b_N_build 21 = .ok (.getfield 21, 3) := by decide +kernel
theorem d_N_build_24 : decode b_N_build 24 = .ok (.invokevirtual 121, 3) := by decide +kernel
theorem d_N_build_27 : decode b_N_build 27 = .ok (.aload_n 0, 1) := by decide +kernel
theorem d_N_build_28 : decode b_N_build 28 = .ok (.getfield 30, 3) := by decide +kernel
theorem d_N_build_31 : decode b_N_build 31 = .ok (.invokevirtual 124, 3) := by decide +kernel
theorem d_N_build_34 : decode b_N_build 34 = .ok (.aload_n 0, 1) := by decide +kernel
theorem d_N_build_35 : decode b_N_build 35 = .ok (.getfield 39, 3) := by decide +kernel
theorem d_N_build_38 : decode b_N_build 38 = .ok (.invokevirtual 127, 3) := by decide +kernel
theorem d_N_build_41 : decode b_N_build 41 = .ok (.aload_n 0, 1) := by decide +kernel
theorem d_N_build_42 : decode b_N_build 42 = .ok (.getfield 48, 3) := by decide +kernel
theorem d_N_build_45 : decode b_N_build 45 = .ok (.invokevirtual 130, 3) := by decide +kernel
theorem d_N_build_48 : decode b_N_build 48 = .ok (.aload_n 0, 1) := by decide +kernel
theorem d_N_build_49 : decode b_N_build 49 = .ok (.iconst 1, 1) := by decide +kernel
theorem d_N_build_50 : decode b_N_build 50 = .ok (.putfield 61, 3) := by decide +kernel
theorem d_N_build_53 : decode b_N_build 53 = .ok (.aload_n 0, 1) := by decide +kernel
theorem d_N_build_54 : decode b_N_build 54 = .ok (.getfield 30, 3) := by decide +kernel
theorem d_N_build_57 : decode b_N_build 57 = .ok (.getfield 133, 3) := by decide +kernel
theorem d_N_build_60 : decode b_N_build 60 = .ok (.ireturn, 1) := by decide +kernel
theorem d_N_look_0 : decode b_N_look 0 = .ok (.aload_n 0, 1) := by decide +kernel
theorem d_N_look_1 : decode b_N_look 1 = .ok (.getfield 12, 3) := by decide +kernel
theorem d_N_look_4 : decode b_N_look 4 = .ok (.iload_n 1, 1) := by decide +kernel
theorem d_N_look_5 : decode b_N_look 5 = .ok (.invokevirtual 80, 3) := by decide +kernel
theorem d_N_look_8 : decode b_N_look 8 = .ok (.ifCond .eq 12, 3) := by decide +kernel
theorem d_N_look_11 : decode b_N_look 11 = .ok (.iload_n 2, 1) := by decide +kernel
theorem d_N_look_12 : decode b_N_look 12 = .ok (.ifCond .lt 8, 3) := by decide +kernel
theorem d_N_look_15 : decode b_N_look 15 = .ok (.iload_n 2, 1) := by decide +kernel
theorem d_N_look_16 : decode b_N_look 16 = .ok (.iconst 5, 1) := by decide +kernel
theorem d_N_look_17 : decode b_N_look 17 = .ok (.if_icmp .le 13, 3) := by decide +kernel
theorem d_N_look_20 : decode b_N_look 20 = .ok (.new 136, 3) := by decide +kernel
theorem d_N_look_23 : decode b_N_look 23 = .ok (.dup, 1) := by decide +kernel
theorem d_N_look_24 : decode b_N_look 24 = .ok (.ldc 138, 2) := by decide +kernel
theorem d_N_look_26 : decode b_N_look 26 = .ok (.invokespecial 140, 3) := by decide +kernel
theorem d_N_look_29 : decode b_N_look 29 = .ok (.athrow, 1) := by decide +kernel
theorem d_N_look_30 : decode b_N_look 30 = .ok (.aload_n 0, 1) := by decide +kernel
theorem d_N_look_31 : decode b_N_look 31 = .ok (.getfield 61, 3) := by decide +kernel
theorem d_N_look_34 : decode b_N_look 34 = .ok (.ifCond .ne 13, 3) := by decide +kernel
theorem d_N_look_37 : decode b_N_look 37 = .ok (.new 69, 3) := by decide +kernel
theorem d_N_look_40 : decode b_N_look 40 = .ok (.dup, 1) := by decide +kernel
theorem d_N_look_41 : decode b_N_look 41 = .ok (.ldc 141, 2) := by decide +kernel
theorem d_N_look_43 : decode b_N_look 43 = .ok (.invokespecial 73, 3) := by decide +kernel
theorem d_N_look_46 : decode b_N_look 46 = .ok (.athrow, 1) := by decide +kernel
theorem d_N_look_47 : decode b_N_look 47 = .ok (.iload_n 2, 1) := by decide +kernel
theorem d_N_look_48 : decode b_N_look 48 = .ok (.tableswitch 109 0 4 #[36, 56, 66, 79, 99], 36) := by decide +kernel
theorem d_N_look_84 : decode b_N_look 84 = .ok (.aload_n 0, 1) := by decide +kernel
theorem d_N_look_85 : decode b_N_look 85 = .ok (.getfield 21, 3) := by decide +kernel
theorem d_N_look_88 : decode b_N_look 88 = .ok (.getfield 143, 3) := by decide +kernel
theorem d_N_look_91 : decode b_N_look 91 = .ok (.iload_n 1, 1) := by decide +kernel
theorem d_N_look_92 : decode b_N_look 92 = .ok (.invokestatic 146, 3) := by decide +kernel
theorem d_N_look_95 : decode b_N_look 95 = .ok (.ifCond .eq 7, 3) := by decide +kernel
theorem d_N_look_98 : decode b_N_look 98 = .ok (.iconst 1, 1) := by decide +kernel
theorem d_N_look_99 : decode b_N_look 99 = .ok (.goto 4, 3) := by decide +kernel
theorem d_N_look_102 : decode b_N_look 102 = .ok (.iconst 0, 1) := by decide +kernel
theorem d_N_look_103 : decode b_N_look 103 = .ok (.ireturn, 1) := by decide +kernel
theorem d_N_look_104 : decode b_N_look 104 = .ok (.aload_n 0, 1) := by decide +kernel
theorem d_N_look_105 : decode b_N_look 105 = .ok (.getfield 21, 3) := by decide +kernel
theorem d_N_look_108 : decode b_N_look 108 = .ok (.getfield 150, 3) := by decide +kernel
theorem d_N_look_111 : decode b_N_look 111 = .ok (.iload_n 1, 1) := by decide +kernel
theorem d_N_look_112 : decode b_N_look 112 = .ok (.iaload, 1) := by decide +kernel
theorem d_N_look_113 : decode b_N_look 113 = .ok (.ireturn, 1) := by decide +kernel
theorem d_N_look_114 : decode b_N_look 114 = .ok (.aload_n 0, 1) := by decide +kernel
theorem d_N_look_115 : decode b_N_look 115 = .ok (.getfield 30, 3) := by decide +kernel
theorem d_N_look_118 : decode b_N_look 118 = .ok (.getfield 153, 3) := by decide +kernel
theorem d_N_look_121 : decode b_N_look 121 = .ok (.iload_n 1, 1) := by decide +kernel
theorem d_N_look_122 : decode b_N_look 122 = .ok (.iaload, 1) := by decide +kernel
theorem d_N_look_123 : decode b_N_look 123 = .ok (.invokestatic 156, 3) := by decide +kernel
theorem d_N_look_126 : decode b_N_look 126 = .ok (.ireturn, 1) := by decide +kernel
theorem d_N_look_127 : decode b_N_look 127 = .ok (.aload_n 0, 1) := by decide +kernel
theorem d_N_look_128 : decode b_N_look 128 = .ok (.getfield 39, 3) := by decide +kernel
theorem d_N_look_131 : decode b_N_look 131 = .ok (.getfield 162, 3) := by decide +kernel
theorem d_N_look_134 : decode b_N_look 134 = .ok (.iload_n 1, 1) := by decide +kernel
theorem d_N_look_135 : decode b_N_look 135 = .ok (.invokestatic 146, 3) := by decide +kernel
theorem d_N_look_138 : decode b_N_look 138 = .ok (.ifCond .eq 7, 3) := by decide +kernel
theorem d_N_look_141 : decode b_N_look 141 = .ok (.iconst 1, 1) := by decide +kernel
theorem d_N_look_142 : decode b_N_look 142 = .ok (.goto 4, 3) := by decide +kernel
theorem d_N_look_145 : decode b_N_look 145 = .ok (.iconst 0, 1) := by decide +kernel
theorem d_N_look_146 : decode b_N_look 146 = .ok (.ireturn, 1) := by decide +kernel
theorem d_N_look_147 : decode b_N_look 147 = .ok (.aload_n 0, 1) := by decide +kernel
theorem d_N_look_148 : decode b_N_look 148 = .ok (.getfield 12, 3) := by decide +kernel
theorem d_N_look_151 : decode b_N_look 151 = .ok (.getfield 93, 3) := by decide +kernel
theorem d_N_look_154 : decode b_N_look 154 = .ok (.iload_n 1, 1) := by decide +kernel
theorem d_N_look_155 : decode b_N_look 155 = .ok (.iaload, 1) := by decide +kernel
theorem d_N_look_156 : decode b_N_look 156 = .ok (.ireturn, 1) := by decide +kernel
theorem d_N_look_157 : decode b_N_look 157 = .ok (.aload_n 0, 1) := by decide +kernel
theorem d_N_look_158 : decode b_N_look 158 = .ok (.getfield 30, 3) := by decide +kernel
theorem d_N_look_161 : decode b_N_look 161 = .ok (.getfield 165, 3) := by decide +kernel
theorem d_N_look_164 : decode b_N_look 164 = .ok (.iload_n 1, 1) := by decide +kernel
theorem d_N_look_165 : decode b_N_look 165 = .ok (.iaload, 1) := by decide +kernel
theorem d_N_look_166 : decode b_N_look 166 = .ok (.ireturn, 1) := by decide +kernel
theorem d_N_phi_0 : decode b_N_phi 0 = .ok (.aload_n 0, 1) := by decide +kernel
theorem d_N_phi_1 : decode b_N_phi 1 = .ok (.getfield 61, 3) := by decide +kernel
theorem d_N_phi_4 : decode b_N_phi 4 = .ok (.ifCond .ne 13, 3) := by decide +kernel
theorem d_N_phi_7 : decode b_N_phi 7 = .ok (.new 69, 3) := by decide +kernel
theorem d_N_phi_10 : decode b_N_phi 10 = .ok (.dup, 1) := by decide +kernel
theorem d_N_phi_11 : decode b_N_phi 11 = .ok (.ldc 141, 2) := by decide +kernel
theorem d_N_phi_13 : decode b_N_phi 13 = .ok (.invokespecial 73, 3) := by decide +kernel
theorem d_N_phi_16 : decode b_N_phi 16 = .ok (.athrow, 1) := by decide +kernel
theorem d_N_phi_17 : decode b_N_phi 17 = .ok (.aload_n 0, 1) := by decide +kernel
theorem d_N_phi_18 : decode b_N_phi 18 = .ok (.getfield 12, 3) := by decide +kernel
theorem d_N_phi_21 : decode b_N_phi 21 = .ok (.iload_n 1, 1) := by decide +kernel
theorem d_N_phi_22 : decode b_N_phi 22 = .ok (.invokevirtual 80, 3) := by decide +kernel
theorem d_N_phi_25 : decode b_N_phi 25 = .ok (.ifCond .eq 15, 3) := by decide +kernel
theorem d_N_phi_28 : decode b_N_phi 28 = .ok (.aload_n 0, 1) := by decide +kernel
theorem d_N_phi_29 : decode b_N_phi 29 = .ok (.getfield 30, 3) := by decide +kernel
theorem d_N_phi_32 : decode b_N_phi 32 = .ok (.iload_n 1, 1) := by decide +kernel
theorem d_N_phi_33 : decode b_N_phi 33 = .ok (.iload_n 2, 1) := by decide +kernel
theorem d_N_phi_34 : decode b_N_phi 34 = .ok (.invokevirtual 168, 3) := by decide +kernel
theorem d_N_phi_37 : decode b_N_phi 37 = .ok (.goto 4, 3) := by decide +kernel
theorem d_N_phi_40 : decode b_N_phi 40 = .ok (.iconst (-1), 1) := by decide +kernel
theorem d_N_phi_41 : decode b_N_phi 41 = .ok (.istore 4, 2) := by decide +kernel
theorem d_N_phi_43 : decode b_N_phi 43 = .ok (.iload 4, 2) := by decide +kernel
theorem d_N_phi_45 : decode b_N_phi 45 = .ok (.iconst (-1), 1) := by decide +kernel
theorem d_N_phi_46 : decode b_N_phi 46 = .ok (.if_icmp .eq 12, 3) := by decide +kernel
theorem d_N_phi_49 : decode b_N_phi 49 = .ok (.aload_n 0, 1) := by decide +kernel
theorem d_N_phi_50 : decode b_N_phi 50 = .ok (.iload_n 1, 1) := by decide +kernel
theorem d_N_phi_51 : decode b_N_phi 51 = .ok (.iload_n 3, 1) := by decide +kernel
theorem d_N_phi_52 : decode b_N_phi 52 = .ok (.invokevirtual 172, 3) := by decide +kernel
theorem d_N_phi_55 : decode b_N_phi 55 = .ok (.ifCond .ne 13, 3) := by decide +kernel
theorem d_N_phi_58 : decode b_N_phi 58 = .ok (.new 136, 3) := by decide +kernel
theorem d_N_phi_61 : decode b_N_phi 61 = .ok (.dup, 1) := by decide +kernel
theorem d_N_phi_62 : decode b_N_phi 62 = .ok (.ldc 175, 2) := by decide +kernel
theorem d_N_phi_64 : decode b_N_phi 64 = .ok (.invokespecial 140, 3) := by decide +kernel
theorem d_N_phi_67 : decode b_N_phi 67 = .ok (.athrow, 1) := by decide +kernel
theorem d_N_phi_68 : decode b_N_phi 68 = .ok (.iload_n 3, 1) := by decide +kernel
theorem d_N_phi_69 : decode b_N_phi 69 = .ok (.iconst (-1), 1) := by decide +kernel
theorem d_N_phi_70 : decode b_N_phi 70 = .ok (.if_icmp .ne 16, 3) := by decide +kernel
theorem d_N_phi_73 : decode b_N_phi 73 = .ok (.aload_n 0, 1) := by decide +kernel
theorem d_N_phi_74 : decode b_N_phi 74 = .ok (.getfield 30, 3) := by decide +kernel
theorem d_N_phi_77 : decode b_N_phi 77 = .ok (.getfield 177, 3) := by decide +kernel
theorem d_N_phi_80 : decode b_N_phi 80 = .ok (.iload_n 1, 1) := by decide +kernel
theorem d_N_phi_81 : decode b_N_phi 81 = .ok (.aaload, 1) := by decide +kernel
theorem d_N_phi_82 : decode b_N_phi 82 = .ok (.iload 4, 2) := by decide +kernel
theorem d_N_phi_84 : decode b_N_phi 84 = .ok (.iaload, 1) := by decide +kernel
theorem d_N_phi_85 : decode b_N_phi 85 = .ok (.ireturn, 1) := by decide +kernel
theorem d_N_phi_86 : decode b_N_phi 86 = .ok (.iload_n 3, 1) := by decide +kernel
theorem d_N_phi_87 : decode b_N_phi 87 = .ok (.bipush (-2), 2) := by decide +kernel
theorem d_N_phi_89 : decode b_N_phi 89 = .ok (.if_icmp .ne 6, 3) := by decide +kernel
theorem d_N_phi_92 : decode b_N_phi 92 = .ok (.iload 4, 2) := by decide +kernel
theorem d_N_phi_94 : decode b_N_phi 94 = .ok (.ireturn, 1) := by decide +kernel
theorem d_N_phi_95 : decode b_N_phi 95 = .ok (.aload_n 0, 1) := by decide +kernel
theorem d_N_phi_96 : decode b_N_phi 96 = .ok (.getfield 30, 3) := by decide +kernel
theorem d_N_phi_99 : decode b_N_phi 99 = .ok (.getfield 181, 3) := by decide +kernel
theorem d_N_phi_102 : decode b_N_phi 102 = .ok (.iload_n 3, 1) := by decide +kernel
theorem d_N_phi_103 : decode b_N_phi 103 = .ok (.aaload, 1) := by decide +kernel
theorem d_N_phi_104 : decode b_N_phi 104 = .ok (.iload 4, 2) := by decide +kernel
theorem d_N_phi_106 : decode b_N_phi 106 = .ok (.iaload, 1) := by decide +kernel
theorem d_N_phi_107 : decode b_N_phi 107 = .ok (.ireturn, 1) := by decide +kernel
theorem d_N_uses_0 : decode b_N_uses 0 = .ok (.aload_n 0, 1) := by decide +kernel
theorem d_N_uses_1 : decode b_N_uses 1 = .ok (.getfield 61, 3) := by decide +kernel
theorem d_N_uses_4 : decode b_N_uses 4 = .ok (.ifCond .ne 13, 3) := by decide +kernel
theorem d_N_uses_7 : decode b_N_uses 7 = .ok (.new 69, 3) := by decide +kernel
theorem d_N_uses_10 : decode b_N_uses 10 = .ok (.dup, 1) := by decide +kernel
theorem d_N_uses_11 : decode b_N_uses 11 = .ok (.ldc 141, 2) := by decide +kernel
theorem d_N_uses_13 : decode b_N_uses 13 = .ok (.invokespecial 73, 3) := by decide +kernel
theorem d_N_uses_16 : decode b_N_uses 16 = .ok (.athrow, 1) := by decide +kernel
theorem d_N_uses_17 : decode b_N_uses 17 = .ok (.aload_n 0, 1) := by decide +kernel
theorem d_N_uses_18 : decode b_N_uses 18 = .ok (.iload_n 1, 1) := by decide +kernel
theorem d_N_uses_19 : decode b_N_uses 19 = .ok (.iload_n 2, 1) := by decide +kernel
theorem d_N_uses_20 : decode b_N_uses 20 = .ok (.invokevirtual 184, 3) := by decide +kernel
theorem d_N_uses_23 : decode b_N_uses 23 = .ok (.ifCond .eq 12, 3) := by decide +kernel
theorem d_N_uses_26 : decode b_N_uses 26 = .ok (.iload_n 3, 1) := by decide +kernel
theorem d_N_uses_27 : decode b_N_uses 27 = .ok (.ifCond .lt 8, 3) := by decide +kernel
theorem d_N_uses_30 : decode b_N_uses 30 = .ok (.iload_n 3, 1) := by decide +kernel
theorem d_N_uses_31 : decode b_N_uses 31 = .ok (.iconst 2, 1) := by decide +kernel
theorem d_N_uses_32 : decode b_N_uses 32 = .ok (.if_icmp .le 13, 3) := by decide +kernel
theorem d_N_uses_35 : decode b_N_uses 35 = .ok (.new 136, 3) := by decide +kernel
theorem d_N_uses_38 : decode b_N_uses 38 = .ok (.dup, 1) := by decide +kernel
theorem d_N_uses_39 : decode b_N_uses 39 = .ok (.ldc 187, 2) := by decide +kernel
theorem d_N_uses_41 : decode b_N_uses 41 = .ok (.invokespecial 140, 3) := by decide +kernel
theorem d_N_uses_44 : decode b_N_uses 44 = .ok (.athrow, 1) := by decide +kernel
theorem d_N_uses_45 : decode b_N_uses 45 = .ok (.iload_n 3, 1) := by decide +kernel
theorem d_N_uses_46 : decode b_N_uses 46 = .ok (.lookupswitch 50 #[(0, 26), (1, 38)], 26) := by decide +kernel
theorem d_N_uses_72 : decode b_N_uses 72 = .ok (.aload_n 0, 1) := by decide +kernel
theorem d_N_uses_73 : decode b_N_uses 73 = .ok (.getfield 30, 3) := by decide +kernel
theorem d_N_uses_76 : decode b_N_uses 76 = .ok (.getfield 189, 3) := by decide +kernel
theorem d_N_uses_79 : decode b_N_uses 79 = .ok (.iload_n 1, 1) := by decide +kernel
theorem d_N_uses_80 : decode b_N_uses 80 = .ok (.aaload, 1) := by decide +kernel
theorem d_N_uses_81 : decode b_N_uses 81 = .ok (.iload_n 2, 1) := by decide +kernel
theorem d_N_uses_82 : decode b_N_uses 82 = .ok (.iaload, 1) := by decide +kernel
theorem d_N_uses_83 : decode b_N_uses 83 = .ok (.ireturn, 1) := by decide +kernel
theorem d_N_uses_84 : decode b_N_uses 84 = .ok (.aload_n 0, 1) := by decide +kernel
theorem d_N_uses_85 : decode b_N_uses 85 = .ok (.getfield 30, 3) := by decide +kernel
theorem d_N_uses_88 : decode b_N_uses 88 = .ok (.getfield 192, 3) := by decide +kernel
theorem d_N_uses_91 : decode b_N_uses 91 = .ok (.iload_n 1, 1) := by decide +kernel
theorem d_N_uses_92 : decode b_N_uses 92 = .ok (.aaload, 1) := by decide +kernel
theorem d_N_uses_93 : decode b_N_uses 93 = .ok (.iload_n 2, 1) := by decide +kernel
theorem d_N_uses_94 : decode b_N_uses 94 = .ok (.iaload, 1) := by decide +kernel
theorem d_N_uses_95 : decode b_N_uses 95 = .ok (.ireturn, 1) := by decide +kernel
theorem d_N_uses_96 : decode b_N_uses 96 = .ok (.aload_n 0, 1) := by decide +kernel
theorem d_N_uses_97 : decode b_N_uses 97 = .ok (.getfield 30, 3) := by decide +kernel
theorem d_N_uses_100 : decode b_N_uses 100 = .ok (.getfield 195, 3) := by decide +kernel
theorem d_N_uses_103 : decode b_N_uses 103 = .ok (.iload_n 1, 1) := by decide +kernel
theorem d_N_uses_104 : decode b_N_uses 104 = .ok (.aaload, 1) := by decide +kernel
theorem d_N_uses_105 : decode b_N_uses 105 = .ok (.iload_n 2, 1) := by decide +kernel
theorem d_N_uses_106 : decode b_N_uses 106 = .ok (.iaload, 1) := by decide +kernel
theorem d_N_uses_107 : decode b_N_uses 107 = .ok (.ireturn, 1) := by decide +kernel
theorem d_N_name_0 : decode b_N_name 0 = .ok (.aload_n 0, 1) := by decide +kernel
theorem d_N_name_1 : decode b_N_name 1 = .ok (.getfield 61, 3) := by decide +kernel
theorem d_N_name_4 : decode b_N_name 4 = .ok (.ifCond .ne 13, 3) := by decide +kernel
theorem d_N_name_7 : decode b_N_name 7 = .ok (.new 69, 3) := by decide +kernel
theorem d_N_name_10 : decode b_N_name 10 = .ok (.dup, 1) := by decide +kernel
theorem d_N_name_11 : decode b_N_name 11 = .ok (.ldc 141, 2) := by decide +kernel
theorem d_N_name_13 : decode b_N_name 13 = .ok (.invokespecial 73, 3) := by decide +kernel
theorem d_N_name_16 : decode b_N_name 16 = .ok (.athrow, 1) := by decide +kernel
theorem d_N_name_17 : decode b_N_name 17 = .ok (.iload_n 1, 1) := by decide +kernel
theorem d_N_name_18 : decode b_N_name 18 = .ok (.ifCond .lt 23, 3) := by decide +kernel
theorem d_N_name_21 : decode b_N_name 21 = .ok (.iload_n 1, 1) := by decide +kernel
theorem d_N_name_22 : decode b_N_name 22 = .ok (.aload_n 0, 1) := by decide +kernel
theorem d_N_name_23 : decode b_N_name 23 = .ok (.getfield 30, 3) := by decide +kernel
theorem d_N_name_26 : decode b_N_name 26 = .ok (.getfield 133, 3) := by decide +kernel
theorem d_N_name_29 : decode b_N_name 29 = .ok (.if_icmp .ge 12, 3) := by decide +kernel
theorem d_N_name_32 : decode b_N_name 32 = .ok (.iload_n 2, 1) := by decide +kernel
theorem d_N_name_33 : decode b_N_name 33 = .ok (.ifCond .lt 8, 3) := by decide +kernel
theorem d_N_name_36 : decode b_N_name 36 = .ok (.iload_n 2, 1) := by decide +kernel
theorem d_N_name_37 : decode b_N_name 37 = .ok (.iconst 3, 1) := by decide +kernel
theorem d_N_name_38 : decode b_N_name 38 = .ok (.if_icmp .le 13, 3) := by decide +kernel
theorem d_N_name_41 : decode b_N_name 41 = .ok (.new 136, 3) := by decide +kernel
theorem d_N_name_44 : decode b_N_name 44 = .ok (.dup, 1) := by decide +kernel
theorem d_N_name_45 : decode b_N_name 45 = .ok (.ldc 198, 2) := by decide +kernel
theorem d_N_name_47 : decode b_N_name 47 = .ok (.invokespecial 140, 3) := by decide +kernel
theorem d_N_name_50 : decode b_N_name 50 = .ok (.athrow, 1) := by decide +kernel
theorem d_N_name_51 : decode b_N_name 51 = .ok (.iload_n 2, 1) := by decide +kernel
theorem d_N_name_52 : decode b_N_name 52 = .ok (.tableswitch 66 0 2 #[28, 38, 48], 28) := by decide +kernel
theorem d_N_name_80 : decode b_N_name 80 = .ok (.aload_n 0, 1) := by decide +kernel
theorem d_N_name_81 : decode b_N_name 81 = .ok (.getfield 39, 3) := by decide +kernel
theorem d_N_name_84 : decode b_N_name 84 = .ok (.getfield 200, 3) := by decide +kernel
theorem d_N_name_87 : decode b_N_name 87 = .ok (.iload_n 1, 1) := by decide +kernel
theorem d_N_name_88 : decode b_N_name 88 = .ok (.iaload, 1) := by decide +kernel
theorem d_N_name_89 : decode b_N_name 89 = .ok (.ireturn, 1) := by decide +kernel
theorem d_N_name_90 : decode b_N_name 90 = .ok (.aload_n 0, 1) := by decide +kernel
theorem d_N_name_91 : decode b_N_name 91 = .ok (.getfield 39, 3) := by decide +kernel
theorem d_N_name_94 : decode b_N_name 94 = .ok (.getfield 203, 3) := by decide +kernel
theorem d_N_name_97 : decode b_N_name 97 = .ok (.iload_n 1, 1) := by decide +kernel
theorem d_N_name_98 : decode b_N_name 98 = .ok (.iaload, 1) := by decide +kernel
theorem d_N_name_99 : decode b_N_name 99 = .ok (.ireturn, 1) := by decide +kernel
theorem d_N_name_100 : decode b_N_name 100 = .ok (.aload_n 0, 1) := by decide +kernel
theorem d_N_name_101 : decode b_N_name 101 = .ok (.getfield 48, 3) := by decide +kernel
theorem d_N_name_104 : decode b_N_name 104 = .ok (.getfield 206, 3) := by decide +kernel
theorem d_N_name_107 : decode b_N_name 107 = .ok (.iload_n 1, 1) := by decide +kernel
theorem d_N_name_108 : decode b_N_name 108 = .ok (.baload, 1) := by decide +kernel
theorem d_N_name_109 : decode b_N_name 109 = .ok (.ifCond .eq 7, 3) := by decide +kernel
theorem d_N_name_112 : decode b_N_name 112 = .ok (.iconst 1, 1) := by decide +kernel
theorem d_N_name_113 : decode b_N_name 113 = .ok (.goto 4, 3) := by decide +kernel
theorem d_N_name_116 : decode b_N_name 116 = .ok (.iconst 0, 1) := by decide +kernel
theorem d_N_name_117 : decode b_N_name 117 = .ok (.ireturn, 1) := by decide +kernel
theorem d_N_name_118 : decode b_N_name 118 = .ok (.aload_n 0, 1) := by decide +kernel
theorem d_N_name_119 : decode b_N_name 119 = .ok (.getfield 30, 3) := by decide +kernel
theorem d_N_name_122 : decode b_N_name 122 = .ok (.getfield 210, 3) := by decide +kernel
theorem d_N_name_125 : decode b_N_name 125 = .ok (.iload_n 1, 1) := by decide +kernel
theorem d_N_name_126 : decode b_N_name 126 = .ok (.iaload, 1) := by decide +kernel
theorem d_N_name_127 : decode b_N_name 127 = .ok (.ireturn, 1) := by decide +kernel
theorem d_N_give_0 : decode b_N_give 0 = .ok (.aload_n 0, 1) := by decide +kernel
theorem d_N_give_1 : decode b_N_give 1 = .ok (.getfield 57, 3) := by decide +kernel
theorem d_N_give_4 : decode b_N_give 4 = .ok (.iload_n 1, 1) := by decide +kernel
theorem d_N_give_5 : decode b_N_give 5 = .ok (.invokevirtual 213, 3) := by decide +kernel
theorem d_N_give_8 : decode b_N_give 8 = .ok (.ireturn, 1) := by decide +kernel
theorem d_N_take_0 : decode b_N_take 0 = .ok (.aload_n 0, 1) := by decide +kernel
theorem d_N_take_1 : decode b_N_take 1 = .ok (.getfield 57, 3) := by decide +kernel
theorem d_N_take_4 : decode b_N_take 4 = .ok (.iconst 0, 1) := by decide +kernel
theorem d_N_take_5 : decode b_N_take 5 = .ok (.putfield 216, 3) := by decide +kernel
theorem d_N_take_8 : decode b_N_take 8 = .ok (.return_, 1) := by decide +kernel
theorem d_N_run_0 : decode b_N_run 0 = .ok (.iload_n 2, 1) := by decide +kernel
theorem d_N_run_1 : decode b_N_run 1 = .ok (.ifCond .lt 10, 3) := by decide +kernel
theorem d_N_run_4 : decode b_N_run 4 = .ok (.iload_n 2, 1) := by decide +kernel
theorem d_N_run_5 : decode b_N_run 5 = .ok (.sipush 200, 3) := by decide +kernel
theorem d_N_run_8 : decode b_N_run 8 = .ok (.if_icmp .le 13, 3) := by decide +kernel
theorem d_N_run_11 : decode b_N_run 11 = .ok (.new 88, 3) := by decide +kernel
theorem d_N_run_14 : decode b_N_run 14 = .ok (.dup, 1) := by decide +kernel
theorem d_N_run_15 : decode b_N_run 15 = .ok (.ldc 219, 2) := by decide +kernel
theorem d_N_run_17 : decode b_N_run 17 = .ok (.invokespecial 92, 3) := by decide +kernel
theorem d_N_run_20 : decode b_N_run 20 = .ok (.athrow, 1) := by decide +kernel
theorem d_N_run_21 : decode b_N_run 21 = .ok (.aload_n 0, 1) := by decide +kernel
theorem d_N_run_22 : decode b_N_run 22 = .ok (.getfield 61, 3) := by decide +kernel
theorem d_N_run_25 : decode b_N_run 25 = .ok (.ifCond .ne 13, 3) := by decide +kernel
theorem d_N_run_28 : decode b_N_run 28 = .ok (.new 69, 3) := by decide +kernel
theorem d_N_run_31 : decode b_N_run 31 = .ok (.dup, 1) := by decide +kernel
theorem d_N_run_32 : decode b_N_run 32 = .ok (.ldc 141, 2) := by decide +kernel
theorem d_N_run_34 : decode b_N_run 34 = .ok (.invokespecial 73, 3) := by decide +kernel
theorem d_N_run_37 : decode b_N_run 37 = .ok (.athrow, 1) := by decide +kernel
theorem d_N_run_38 : decode b_N_run 38 = .ok (.aload_n 0, 1) := by decide +kernel
theorem d_N_run_39 : decode b_N_run 39 = .ok (.getfield 57, 3) := by decide +kernel
theorem d_N_run_42 : decode b_N_run 42 = .ok (.iload_n 1, 1) := by decide +kernel
theorem d_N_run_43 : decode b_N_run 43 = .ok (.iload_n 2, 1) := by decide +kernel
theorem d_N_run_44 : decode b_N_run 44 = .ok (.invokevirtual 221, 3) := by decide +kernel
theorem d_N_run_47 : decode b_N_run 47 = .ok (.ifCond .eq 7, 3) := by decide +kernel
theorem d_N_run_50 : decode b_N_run 50 = .ok (.iconst 0, 1) := by decide +kernel
theorem d_N_run_51 : decode b_N_run 51 = .ok (.goto 4, 3) := by decide +kernel
theorem d_N_run_54 : decode b_N_run 54 = .ok (.iconst 1, 1) := by decide +kernel
theorem d_N_run_55 : decode b_N_run 55 = .ok (.ireturn, 1) := by decide +kernel
theorem d_N_told_0 : decode b_N_told 0 = .ok (.aload_n 0, 1) := by decide +kernel
theorem d_N_told_1 : decode b_N_told 1 = .ok (.getfield 57, 3) := by decide +kernel
theorem d_N_told_4 : decode b_N_told 4 = .ok (.getfield 225, 3) := by decide +kernel
theorem d_N_told_7 : decode b_N_told 7 = .ok (.ireturn, 1) := by decide +kernel
theorem d_N_heard_0 : decode b_N_heard 0 = .ok (.iload_n 1, 1) := by decide +kernel
theorem d_N_heard_1 : decode b_N_heard 1 = .ok (.ifCond .lt 20, 3) := by decide +kernel
theorem d_N_heard_4 : decode b_N_heard 4 = .ok (.iload_n 1, 1) := by decide +kernel
theorem d_N_heard_5 : decode b_N_heard 5 = .ok (.bipush 40, 2) := by decide +kernel
theorem d_N_heard_7 : decode b_N_heard 7 = .ok (.if_icmp .ge 14, 3) := by decide +kernel
theorem d_N_heard_10 : decode b_N_heard 10 = .ok (.iload_n 1, 1) := by decide +kernel
theorem d_N_heard_11 : decode b_N_heard 11 = .ok (.aload_n 0, 1) := by decide +kernel
theorem d_N_heard_12 : decode b_N_heard 12 = .ok (.getfield 57, 3) := by decide +kernel
theorem d_N_heard_15 : decode b_N_heard 15 = .ok (.getfield 225, 3) := by decide +kernel
theorem d_N_heard_18 : decode b_N_heard 18 = .ok (.if_icmp .lt 13, 3) := by decide +kernel
theorem d_N_heard_21 : decode b_N_heard 21 = .ok (.new 136, 3) := by decide +kernel
theorem d_N_heard_24 : decode b_N_heard 24 = .ok (.dup, 1) := by decide +kernel
theorem d_N_heard_25 : decode b_N_heard 25 = .ok (.ldc 228, 2) := by decide +kernel
theorem d_N_heard_27 : decode b_N_heard 27 = .ok (.invokespecial 140, 3) := by decide +kernel
theorem d_N_heard_30 : decode b_N_heard 30 = .ok (.athrow, 1) := by decide +kernel
theorem d_N_heard_31 : decode b_N_heard 31 = .ok (.aload_n 0, 1) := by decide +kernel
theorem d_N_heard_32 : decode b_N_heard 32 = .ok (.getfield 57, 3) := by decide +kernel
theorem d_N_heard_35 : decode b_N_heard 35 = .ok (.getfield 230, 3) := by decide +kernel
theorem d_N_heard_38 : decode b_N_heard 38 = .ok (.iload_n 1, 1) := by decide +kernel
theorem d_N_heard_39 : decode b_N_heard 39 = .ok (.iaload, 1) := by decide +kernel
theorem d_N_heard_40 : decode b_N_heard 40 = .ok (.ireturn, 1) := by decide +kernel
theorem d_N_spent_0 : decode b_N_spent 0 = .ok (.iload_n 1, 1) := by decide +kernel
theorem d_N_spent_1 : decode b_N_spent 1 = .ok (.tableswitch 51 0 2 #[27, 35, 43], 27) := by decide +kernel
theorem d_N_spent_28 : decode b_N_spent 28 = .ok (.aload_n 0, 1) := by decide +kernel
theorem d_N_spent_29 : decode b_N_spent 29 = .ok (.getfield 57, 3) := by decide +kernel
theorem d_N_spent_32 : decode b_N_spent 32 = .ok (.getfield 233, 3) := by decide +kernel
theorem d_N_spent_35 : decode b_N_spent 35 = .ok (.ireturn, 1) := by decide +kernel
theorem d_N_spent_36 : decode b_N_spent 36 = .ok (.aload_n 0, 1) := by decide +kernel
theorem d_N_spent_37 : decode b_N_spent 37 = .ok (.getfield 57, 3) := by decide +kernel
theorem d_N_spent_40 : decode b_N_spent 40 = .ok (.getfield 236, 3) := by decide +kernel
theorem d_N_spent_43 : decode b_N_spent 43 = .ok (.ireturn, 1) := by decide +kernel
theorem d_N_spent_44 : decode b_N_spent 44 = .ok (.aload_n 0, 1) := by decide +kernel
theorem d_N_spent_45 : decode b_N_spent 45 = .ok (.getfield 57, 3) := by decide +kernel
theorem d_N_spent_48 : decode b_N_spent 48 = .ok (.getfield 239, 3) := by decide +kernel
theorem d_N_spent_51 : decode b_N_spent 51 = .ok (.ireturn, 1) := by decide +kernel
theorem d_N_spent_52 : decode b_N_spent 52 = .ok (.iconst (-1), 1) := by decide +kernel
theorem d_N_spent_53 : decode b_N_spent 53 = .ok (.ireturn, 1) := by decide +kernel
theorem d_N_isPhiWhat_0 : decode b_N_isPhiWhat 0 = .ok (.iload_n 2, 1) := by decide +kernel
theorem d_N_isPhiWhat_1 : decode b_N_isPhiWhat 1 = .ok (.iconst (-1), 1) := by decide +kernel
theorem d_N_isPhiWhat_2 : decode b_N_isPhiWhat 2 = .ok (.if_icmp .eq 9, 3) := by decide +kernel
theorem d_N_isPhiWhat_5 : decode b_N_isPhiWhat 5 = .ok (.iload_n 2, 1) := by decide +kernel
theorem d_N_isPhiWhat_6 : decode b_N_isPhiWhat 6 = .ok (.bipush (-2), 2) := by decide +kernel
theorem d_N_isPhiWhat_8 : decode b_N_isPhiWhat 8 = .ok (.if_icmp .ne 5, 3) := by decide +kernel
theorem d_N_isPhiWhat_11 : decode b_N_isPhiWhat 11 = .ok (.iconst 1, 1) := by decide +kernel
theorem d_N_isPhiWhat_12 : decode b_N_isPhiWhat 12 = .ok (.ireturn, 1) := by decide +kernel
theorem d_N_isPhiWhat_13 : decode b_N_isPhiWhat 13 = .ok (.aload_n 0, 1) := by decide +kernel
theorem d_N_isPhiWhat_14 : decode b_N_isPhiWhat 14 = .ok (.getfield 12, 3) := by decide +kernel
theorem d_N_isPhiWhat_17 : decode b_N_isPhiWhat 17 = .ok (.iload_n 2, 1) := by decide +kernel
theorem d_N_isPhiWhat_18 : decode b_N_isPhiWhat 18 = .ok (.invokevirtual 80, 3) := by decide +kernel
theorem d_N_isPhiWhat_21 : decode b_N_isPhiWhat 21 = .ok (.ifCond .eq 23, 3) := by decide +kernel
theorem d_N_isPhiWhat_24 : decode b_N_isPhiWhat 24 = .ok (.aload_n 0, 1) := by decide +kernel
theorem d_N_isPhiWhat_25 : decode b_N_isPhiWhat 25 = .ok (.getfield 21, 3) := by decide +kernel
theorem d_N_isPhiWhat_28 : decode b_N_isPhiWhat 28 = .ok (.getfield 242, 3) := by decide +kernel
theorem d_N_isPhiWhat_31 : decode b_N_isPhiWhat 31 = .ok (.iload_n 1, 1) := by decide +kernel
theorem d_N_isPhiWhat_32 : decode b_N_isPhiWhat 32 = .ok (.iaload, 1) := by decide +kernel
theorem d_N_isPhiWhat_33 : decode b_N_isPhiWhat 33 = .ok (.iload_n 2, 1) := by decide +kernel
theorem d_N_isPhiWhat_34 : decode b_N_isPhiWhat 34 = .ok (.invokestatic 146, 3) := by decide +kernel
theorem d_N_isPhiWhat_37 : decode b_N_isPhiWhat 37 = .ok (.ifCond .eq 7, 3) := by decide +kernel
theorem d_N_isPhiWhat_40 : decode b_N_isPhiWhat 40 = .ok (.iconst 1, 1) := by decide +kernel
theorem d_N_isPhiWhat_41 : decode b_N_isPhiWhat 41 = .ok (.goto 4, 3) := by decide +kernel
theorem d_N_isPhiWhat_44 : decode b_N_isPhiWhat 44 = .ok (.iconst 0, 1) := by decide +kernel
theorem d_N_isPhiWhat_45 : decode b_N_isPhiWhat 45 = .ok (.ireturn, 1) := by decide +kernel
theorem d_N_isReachedInstruction_0 : decode b_N_isReachedInstruction 0 = .ok (.aload_n 0, 1) := by decide +kernel
theorem d_N_isReachedInstruction_1 : decode b_N_isReachedInstruction 1 = .ok (.getfield 12, 3) := by decide +kernel
theorem d_N_isReachedInstruction_4 : decode b_N_isReachedInstruction 4 = .ok (.iload_n 1, 1) := by decide +kernel
theorem d_N_isReachedInstruction_5 : decode b_N_isReachedInstruction 5 = .ok (.invokevirtual 80, 3) := by decide +kernel
theorem d_N_isReachedInstruction_8 : decode b_N_isReachedInstruction 8 = .ok (.ifCond .eq 38, 3) := by decide +kernel
theorem d_N_isReachedInstruction_11 : decode b_N_isReachedInstruction 11 = .ok (.aload_n 0, 1) := by decide +kernel
theorem d_N_isReachedInstruction_12 : decode b_N_isReachedInstruction 12 = .ok (.getfield 21, 3) := by decide +kernel
theorem d_N_isReachedInstruction_15 : decode b_N_isReachedInstruction 15 = .ok (.getfield 143, 3) := by decide +kernel
theorem d_N_isReachedInstruction_18 : decode b_N_isReachedInstruction 18 = .ok (.iload_n 1, 1) := by decide +kernel
theorem d_N_isReachedInstruction_19 : decode b_N_isReachedInstruction 19 = .ok (.invokestatic 146, 3) := by decide +kernel
theorem d_N_isReachedInstruction_22 : decode b_N_isReachedInstruction 22 = .ok (.ifCond .eq 24, 3) := by decide +kernel
theorem d_N_isReachedInstruction_25 : decode b_N_isReachedInstruction 25 = .ok (.iload_n 2, 1) := by decide +kernel
theorem d_N_isReachedInstruction_26 : decode b_N_isReachedInstruction 26 = .ok (.ifCond .lt 20, 3) := by decide +kernel
theorem d_N_isReachedInstruction_29 : decode b_N_isReachedInstruction 29 = .ok (.iload_n 2, 1) := by decide +kernel
theorem d_N_isReachedInstruction_30 : decode b_N_isReachedInstruction 30 = .ok (.aload_n 0, 1) := by decide +kernel
theorem d_N_isReachedInstruction_31 : decode b_N_isReachedInstruction 31 = .ok (.getfield 12, 3) := by decide +kernel
theorem d_N_isReachedInstruction_34 : decode b_N_isReachedInstruction 34 = .ok (.getfield 93, 3) := by decide +kernel
theorem d_N_isReachedInstruction_37 : decode b_N_isReachedInstruction 37 = .ok (.iload_n 1, 1) := by decide +kernel
theorem d_N_isReachedInstruction_38 : decode b_N_isReachedInstruction 38 = .ok (.iaload, 1) := by decide +kernel
theorem d_N_isReachedInstruction_39 : decode b_N_isReachedInstruction 39 = .ok (.if_icmp .ge 7, 3) := by decide +kernel
theorem d_N_isReachedInstruction_42 : decode b_N_isReachedInstruction 42 = .ok (.iconst 1, 1) := by decide +kernel
theorem d_N_isReachedInstruction_43 : decode b_N_isReachedInstruction 43 = .ok (.goto 4, 3) := by decide +kernel
theorem d_N_isReachedInstruction_46 : decode b_N_isReachedInstruction 46 = .ok (.iconst 0, 1) := by decide +kernel
theorem d_N_isReachedInstruction_47 : decode b_N_isReachedInstruction 47 = .ok (.ireturn, 1) := by decide +kernel
theorem d_N_isInstruction_0 : decode b_N_isInstruction 0 = .ok (.iload_n 0, 1) := by decide +kernel
theorem d_N_isInstruction_1 : decode b_N_isInstruction 1 = .ok (.ifCond .lt 55, 3) := by decide +kernel
theorem d_N_isInstruction_4 : decode b_N_isInstruction 4 = .ok (.iload_n 0, 1) := by decide +kernel
theorem d_N_isInstruction_5 : decode b_N_isInstruction 5 = .ok (.bipush 7, 2) := by decide +kernel
theorem d_N_isInstruction_7 : decode b_N_isInstruction 7 = .ok (.if_icmp .gt 49, 3) := by decide +kernel
theorem d_N_isInstruction_10 : decode b_N_isInstruction 10 = .ok (.iload_n 0, 1) := by decide +kernel
theorem d_N_isInstruction_11 : decode b_N_isInstruction 11 = .ok (.invokestatic 245, 3) := by decide +kernel
theorem d_N_isInstruction_14 : decode b_N_isInstruction 14 = .ok (.ifCond .eq 10, 3) := by decide +kernel
theorem d_N_isInstruction_17 : decode b_N_isInstruction 17 = .ok (.iload_n 1, 1) := by decide +kernel
theorem d_N_isInstruction_18 : decode b_N_isInstruction 18 = .ok (.invokestatic 112, 3) := by decide +kernel
theorem d_N_isInstruction_21 : decode b_N_isInstruction 21 = .ok (.ifCond .eq 35, 3) := by decide +kernel
theorem d_N_isInstruction_24 : decode b_N_isInstruction 24 = .ok (.iload_n 0, 1) := by decide +kernel
theorem d_N_isInstruction_25 : decode b_N_isInstruction 25 = .ok (.invokestatic 248, 3) := by decide +kernel
theorem d_N_isInstruction_28 : decode b_N_isInstruction 28 = .ok (.ifCond .eq 10, 3) := by decide +kernel
theorem d_N_isInstruction_31 : decode b_N_isInstruction 31 = .ok (.iload_n 2, 1) := by decide +kernel
theorem d_N_isInstruction_32 : decode b_N_isInstruction 32 = .ok (.invokestatic 112, 3) := by decide +kernel
theorem d_N_isInstruction_35 : decode b_N_isInstruction 35 = .ok (.ifCond .eq 21, 3) := by decide +kernel
theorem d_N_isInstruction_38 : decode b_N_isInstruction 38 = .ok (.iload_n 0, 1) := by decide +kernel
theorem d_N_isInstruction_39 : decode b_N_isInstruction 39 = .ok (.invokestatic 251, 3) := by decide +kernel
theorem d_N_isInstruction_42 : decode b_N_isInstruction 42 = .ok (.ifCond .eq 10, 3) := by decide +kernel
theorem d_N_isInstruction_45 : decode b_N_isInstruction 45 = .ok (.iload_n 3, 1) := by decide +kernel
theorem d_N_isInstruction_46 : decode b_N_isInstruction 46 = .ok (.invokestatic 112, 3) := by decide +kernel
theorem d_N_isInstruction_49 : decode b_N_isInstruction 49 = .ok (.ifCond .eq 7, 3) := by decide +kernel
theorem d_N_isInstruction_52 : decode b_N_isInstruction 52 = .ok (.iconst 1, 1) := by decide +kernel
theorem d_N_isInstruction_53 : decode b_N_isInstruction 53 = .ok (.goto 4, 3) := by decide +kernel
theorem d_N_isInstruction_56 : decode b_N_isInstruction 56 = .ok (.iconst 0, 1) := by decide +kernel
theorem d_N_isInstruction_57 : decode b_N_isInstruction 57 = .ok (.ireturn, 1) := by decide +kernel
theorem d_N_isVariable_0 : decode b_N_isVariable 0 = .ok (.iload_n 0, 1) := by decide +kernel
theorem d_N_isVariable_1 : decode b_N_isVariable 1 = .ok (.ifCond .lt 13, 3) := by decide +kernel
theorem d_N_isVariable_4 : decode b_N_isVariable 4 = .ok (.iload_n 0, 1) := by decide +kernel
theorem d_N_isVariable_5 : decode b_N_isVariable 5 = .ok (.bipush 6, 2) := by decide +kernel
theorem d_N_isVariable_7 : decode b_N_isVariable 7 = .ok (.if_icmp .ge 7, 3) := by decide +kernel
theorem d_N_isVariable_10 : decode b_N_isVariable 10 = .ok (.iconst 1, 1) := by decide +kernel
theorem d_N_isVariable_11 : decode b_N_isVariable 11 = .ok (.goto 4, 3) := by decide +kernel
theorem d_N_isVariable_14 : decode b_N_isVariable 14 = .ok (.iconst 0, 1) := by decide +kernel
theorem d_N_isVariable_15 : decode b_N_isVariable 15 = .ok (.ireturn, 1) := by decide +kernel
theorem d_N_setsVariable_0 : decode b_N_setsVariable 0 = .ok (.iload_n 0, 1) := by decide +kernel
theorem d_N_setsVariable_1 : decode b_N_setsVariable 1 = .ok (.bipush 7, 2) := by decide +kernel
theorem d_N_setsVariable_3 : decode b_N_setsVariable 3 = .ok (.if_icmp .eq 7, 3) := by decide +kernel
theorem d_N_setsVariable_6 : decode b_N_setsVariable 6 = .ok (.iconst 1, 1) := by decide +kernel
theorem d_N_setsVariable_7 : decode b_N_setsVariable 7 = .ok (.goto 4, 3) := by decide +kernel
theorem d_N_setsVariable_10 : decode b_N_setsVariable 10 = .ok (.iconst 0, 1) := by decide +kernel
theorem d_N_setsVariable_11 : decode b_N_setsVariable 11 = .ok (.ireturn, 1) := by decide +kernel
theorem d_N_readsX_0 : decode b_N_readsX 0 = .ok (.iload_n 0, 1) := by decide +kernel
theorem d_N_readsX_1 : decode b_N_readsX 1 = .ok (.ifCond .eq 13, 3) := by decide +kernel
theorem d_N_readsX_4 : decode b_N_readsX 4 = .ok (.iload_n 0, 1) := by decide +kernel
theorem d_N_readsX_5 : decode b_N_readsX 5 = .ok (.bipush 6, 2) := by decide +kernel
theorem d_N_readsX_7 : decode b_N_readsX 7 = .ok (.if_icmp .eq 7, 3) := by decide +kernel
theorem d_N_readsX_10 : decode b_N_readsX 10 = .ok (.iconst 1, 1) := by decide +kernel
theorem d_N_readsX_11 : decode b_N_readsX 11 = .ok (.goto 4, 3) := by decide +kernel
theorem d_N_readsX_14 : decode b_N_readsX 14 = .ok (.iconst 0, 1) := by decide +kernel
theorem d_N_readsX_15 : decode b_N_readsX 15 = .ok (.ireturn, 1) := by decide +kernel
theorem d_N_readsY_0 : decode b_N_readsY 0 = .ok (.iload_n 0, 1) := by decide +kernel
theorem d_N_readsY_1 : decode b_N_readsY 1 = .ok (.iconst 2, 1) := by decide +kernel
theorem d_N_readsY_2 : decode b_N_readsY 2 = .ok (.if_icmp .lt 12, 3) := by decide +kernel
theorem d_N_readsY_5 : decode b_N_readsY 5 = .ok (.iload_n 0, 1) := by decide +kernel
theorem d_N_readsY_6 : decode b_N_readsY 6 = .ok (.iconst 5, 1) := by decide +kernel
theorem d_N_readsY_7 : decode b_N_readsY 7 = .ok (.if_icmp .gt 7, 3) := by decide +kernel
theorem d_N_readsY_10 : decode b_N_readsY 10 = .ok (.iconst 1, 1) := by decide +kernel
theorem d_N_readsY_11 : decode b_N_readsY 11 = .ok (.goto 4, 3) := by decide +kernel
theorem d_N_readsY_14 : decode b_N_readsY 14 = .ok (.iconst 0, 1) := by decide +kernel
theorem d_N_readsY_15 : decode b_N_readsY 15 = .ok (.ireturn, 1) := by decide +kernel
theorem d_N_calculate_0 : decode b_N_calculate 0 = .ok (.iload_n 0, 1) := by decide +kernel
theorem d_N_calculate_1 : decode b_N_calculate 1 = .ok (.tableswitch 64 0 5 #[39, 39, 41, 45, 49, 53], 39) := by decide +kernel
theorem d_N_calculate_40 : decode b_N_calculate 40 = .ok (.iload_n 1, 1) := by decide +kernel
theorem d_N_calculate_41 : decode b_N_calculate 41 = .ok (.ireturn, 1) := by decide +kernel
theorem d_N_calculate_42 : decode b_N_calculate 42 = .ok (.iload_n 1, 1) := by decide +kernel
theorem d_N_calculate_43 : decode b_N_calculate 43 = .ok (.iload_n 2, 1) := by decide +kernel
theorem d_N_calculate_44 : decode b_N_calculate 44 = .ok (.iadd, 1) := by decide +kernel
theorem d_N_calculate_45 : decode b_N_calculate 45 = .ok (.ireturn, 1) := by decide +kernel
theorem d_N_calculate_46 : decode b_N_calculate 46 = .ok (.iload_n 1, 1) := by decide +kernel
theorem d_N_calculate_47 : decode b_N_calculate 47 = .ok (.iload_n 2, 1) := by decide +kernel
theorem d_N_calculate_48 : decode b_N_calculate 48 = .ok (.isub, 1) := by decide +kernel
theorem d_N_calculate_49 : decode b_N_calculate 49 = .ok (.ireturn, 1) := by decide +kernel
theorem d_N_calculate_50 : decode b_N_calculate 50 = .ok (.iload_n 1, 1) := by decide +kernel
theorem d_N_calculate_51 : decode b_N_calculate 51 = .ok (.iload_n 2, 1) := by decide +kernel
theorem d_N_calculate_52 : decode b_N_calculate 52 = .ok (.imul, 1) := by decide +kernel
theorem d_N_calculate_53 : decode b_N_calculate 53 = .ok (.ireturn, 1) := by decide +kernel
theorem d_N_calculate_54 : decode b_N_calculate 54 = .ok (.iload_n 1, 1) := by decide +kernel
theorem d_N_calculate_55 : decode b_N_calculate 55 = .ok (.iload_n 2, 1) := by decide +kernel
theorem d_N_calculate_56 : decode b_N_calculate 56 = .ok (.if_icmp .ge 7, 3) := by decide +kernel
theorem d_N_calculate_59 : decode b_N_calculate 59 = .ok (.iconst 1, 1) := by decide +kernel
theorem d_N_calculate_60 : decode b_N_calculate 60 = .ok (.goto 4, 3) := by decide +kernel
theorem d_N_calculate_63 : decode b_N_calculate 63 = .ok (.iconst 0, 1) := by decide +kernel
theorem d_N_calculate_64 : decode b_N_calculate 64 = .ok (.ireturn, 1) := by decide +kernel
theorem d_N_calculate_65 : decode b_N_calculate 65 = .ok (.iconst 0, 1) := by decide +kernel
theorem d_N_calculate_66 : decode b_N_calculate 66 = .ok (.ireturn, 1) := by decide +kernel
theorem d_N_bit_0 : decode b_N_bit 0 = .ok (.iconst 1, 1) := by decide +kernel
theorem d_N_bit_1 : decode b_N_bit 1 = .ok (.iload_n 0, 1) := by decide +kernel
theorem d_N_bit_2 : decode b_N_bit 2 = .ok (.ishl, 1) := by decide +kernel
theorem d_N_bit_3 : decode b_N_bit 3 = .ok (.ireturn, 1) := by decide +kernel
theorem d_N_holds_0 : decode b_N_holds 0 = .ok (.iload_n 0, 1) := by decide +kernel
theorem d_N_holds_1 : decode b_N_holds 1 = .ok (.iload_n 1, 1) := by decide +kernel
theorem d_N_holds_2 : decode b_N_holds 2 = .ok (.invokestatic 254, 3) := by decide +kernel
theorem d_N_holds_5 : decode b_N_holds 5 = .ok (.iand, 1) := by decide +kernel
theorem d_N_holds_6 : decode b_N_holds 6 = .ok (.ifCond .eq 7, 3) := by decide +kernel
theorem d_N_holds_9 : decode b_N_holds 9 = .ok (.iconst 1, 1) := by decide +kernel
theorem d_N_holds_10 : decode b_N_holds 10 = .ok (.goto 4, 3) := by decide +kernel
theorem d_N_holds_13 : decode b_N_holds 13 = .ok (.iconst 0, 1) := by decide +kernel
theorem d_N_holds_14 : decode b_N_holds 14 = .ok (.ireturn, 1) := by decide +kernel
theorem d_R_thrown_0 : decode b_R_thrown 0 = .ok (.aload_n 0, 1) := by decide +kernel
theorem d_R_thrown_1 : decode b_R_thrown 1 = .ok (.getfield 101, 3) := by decide +kernel
theorem d_R_thrown_4 : decode b_R_thrown 4 = .ok (.ireturn, 1) := by decide +kernel
theorem d_R_fails_0 : decode b_R_fails 0 = .ok (.aload_n 0, 1) := by decide +kernel
theorem d_R_fails_1 : decode b_R_fails 1 = .ok (.iload_n 1, 1) := by decide +kernel
theorem d_R_fails_2 : decode b_R_fails 2 = .ok (.ifCond .eq 7, 3) := by decide +kernel
theorem d_R_fails_5 : decode b_R_fails 5 = .ok (.iload_n 2, 1) := by decide +kernel
theorem d_R_fails_6 : decode b_R_fails 6 = .ok (.goto 4, 3) := by decide +kernel
theorem d_R_fails_9 : decode b_R_fails 9 = .ok (.iconst 0, 1) := by decide +kernel
theorem d_R_fails_10 : decode b_R_fails 10 = .ok (.putfield 101, 3) := by decide +kernel
theorem d_R_fails_13 : decode b_R_fails 13 = .ok (.iload_n 1, 1) := by decide +kernel
theorem d_R_fails_14 : decode b_R_fails 14 = .ok (.ireturn, 1) := by decide +kernel
theorem d_R_noBlock_0 : decode b_R_noBlock 0 = .ok (.iload_n 1, 1) := by decide +kernel
theorem d_R_noBlock_1 : decode b_R_noBlock 1 = .ok (.ifCond .lt 11, 3) := by decide +kernel
theorem d_R_noBlock_4 : decode b_R_noBlock 4 = .ok (.iload_n 1, 1) := by decide +kernel
theorem d_R_noBlock_5 : decode b_R_noBlock 5 = .ok (.aload_n 0, 1) := by decide +kernel
theorem d_R_noBlock_6 : decode b_R_noBlock 6 = .ok (.getfield 105, 3) := by decide +kernel
theorem d_R_noBlock_9 : decode b_R_noBlock 9 = .ok (.if_icmp .lt 7, 3) := by decide +kernel
theorem d_R_noBlock_12 : decode b_R_noBlock 12 = .ok (.iconst 1, 1) := by decide +kernel
theorem d_R_noBlock_13 : decode b_R_noBlock 13 = .ok (.goto 4, 3) := by decide +kernel
theorem d_R_noBlock_16 : decode b_R_noBlock 16 = .ok (.iconst 0, 1) := by decide +kernel
theorem d_R_noBlock_17 : decode b_R_noBlock 17 = .ok (.ireturn, 1) := by decide +kernel
theorem d_R_noVariable_0 : decode b_R_noVariable 0 = .ok (.iload_n 0, 1) := by decide +kernel
theorem d_R_noVariable_1 : decode b_R_noVariable 1 = .ok (.ifCond .lt 8, 3) := by decide +kernel
theorem d_R_noVariable_4 : decode b_R_noVariable 4 = .ok (.iload_n 0, 1) := by decide +kernel
theorem d_R_noVariable_5 : decode b_R_noVariable 5 = .ok (.iconst 5, 1) := by decide +kernel
theorem d_R_noVariable_6 : decode b_R_noVariable 6 = .ok (.if_icmp .le 7, 3) := by decide +kernel
theorem d_R_noVariable_9 : decode b_R_noVariable 9 = .ok (.iconst 1, 1) := by decide +kernel
theorem d_R_noVariable_10 : decode b_R_noVariable 10 = .ok (.goto 4, 3) := by decide +kernel
theorem d_R_noVariable_13 : decode b_R_noVariable 13 = .ok (.iconst 0, 1) := by decide +kernel
theorem d_R_noVariable_14 : decode b_R_noVariable 14 = .ok (.ireturn, 1) := by decide +kernel
theorem d_R_setsOne_0 : decode b_R_setsOne 0 = .ok (.iload_n 0, 1) := by decide +kernel
theorem d_R_setsOne_1 : decode b_R_setsOne 1 = .ok (.bipush 7, 2) := by decide +kernel
theorem d_R_setsOne_3 : decode b_R_setsOne 3 = .ok (.if_icmp .eq 7, 3) := by decide +kernel
theorem d_R_setsOne_6 : decode b_R_setsOne 6 = .ok (.iconst 1, 1) := by decide +kernel
theorem d_R_setsOne_7 : decode b_R_setsOne 7 = .ok (.goto 4, 3) := by decide +kernel
theorem d_R_setsOne_10 : decode b_R_setsOne 10 = .ok (.iconst 0, 1) := by decide +kernel
theorem d_R_setsOne_11 : decode b_R_setsOne 11 = .ok (.ireturn, 1) := by decide +kernel
theorem d_R_usesFirst_0 : decode b_R_usesFirst 0 = .ok (.iload_n 0, 1) := by decide +kernel
theorem d_R_usesFirst_1 : decode b_R_usesFirst 1 = .ok (.ifCond .eq 13, 3) := by decide +kernel
theorem d_R_usesFirst_4 : decode b_R_usesFirst 4 = .ok (.iload_n 0, 1) := by decide +kernel
theorem d_R_usesFirst_5 : decode b_R_usesFirst 5 = .ok (.bipush 6, 2) := by decide +kernel
theorem d_R_usesFirst_7 : decode b_R_usesFirst 7 = .ok (.if_icmp .eq 7, 3) := by decide +kernel
theorem d_R_usesFirst_10 : decode b_R_usesFirst 10 = .ok (.iconst 1, 1) := by decide +kernel
theorem d_R_usesFirst_11 : decode b_R_usesFirst 11 = .ok (.goto 4, 3) := by decide +kernel
theorem d_R_usesFirst_14 : decode b_R_usesFirst 14 = .ok (.iconst 0, 1) := by decide +kernel
theorem d_R_usesFirst_15 : decode b_R_usesFirst 15 = .ok (.ireturn, 1) := by decide +kernel
theorem d_R_usesSecond_0 : decode b_R_usesSecond 0 = .ok (.iload_n 0, 1) := by decide +kernel
theorem d_R_usesSecond_1 : decode b_R_usesSecond 1 = .ok (.iconst 1, 1) := by decide +kernel
theorem d_R_usesSecond_2 : decode b_R_usesSecond 2 = .ok (.if_icmp .le 13, 3) := by decide +kernel
theorem d_R_usesSecond_5 : decode b_R_usesSecond 5 = .ok (.iload_n 0, 1) := by decide +kernel
theorem d_R_usesSecond_6 : decode b_R_usesSecond 6 = .ok (.bipush 6, 2) := by decide +kernel
theorem d_R_usesSecond_8 : decode b_R_usesSecond 8 = .ok (.if_icmp .ge 7, 3) := by decide +kernel
theorem d_R_usesSecond_11 : decode b_R_usesSecond 11 = .ok (.iconst 1, 1) := by decide +kernel
theorem d_R_usesSecond_12 : decode b_R_usesSecond 12 = .ok (.goto 4, 3) := by decide +kernel
theorem d_R_usesSecond_15 : decode b_R_usesSecond 15 = .ok (.iconst 0, 1) := by decide +kernel
theorem d_R_usesSecond_16 : decode b_R_usesSecond 16 = .ok (.ireturn, 1) := by decide +kernel
theorem d_R_block_0 : decode b_R_block 0 = .ok (.aload_n 0, 1) := by decide +kernel
theorem d_R_block_1 : decode b_R_block 1 = .ok (.aload_n 0, 1) := by decide +kernel
theorem d_R_block_2 : decode b_R_block 2 = .ok (.getfield 105, 3) := by decide +kernel
theorem d_R_block_5 : decode b_R_block 5 = .ok (.bipush 10, 2) := by decide +kernel
theorem d_R_block_7 : decode b_R_block 7 = .ok (.if_icmp .ne 7, 3) := by decide +kernel
theorem d_R_block_10 : decode b_R_block 10 = .ok (.iconst 1, 1) := by decide +kernel
theorem d_R_block_11 : decode b_R_block 11 = .ok (.goto 4, 3) := by decide +kernel
theorem d_R_block_14 : decode b_R_block 14 = .ok (.iconst 0, 1) := by decide +kernel
theorem d_R_block_15 : decode b_R_block 15 = .ok (.iconst 1, 1) := by decide +kernel
theorem d_R_block_16 : decode b_R_block 16 = .ok (.invokevirtual 108, 3) := by decide +kernel
theorem d_R_block_19 : decode b_R_block 19 = .ok (.ifCond .eq 5, 3) := by decide +kernel
theorem d_R_block_22 : decode b_R_block 22 = .ok (.iconst 0, 1) := by decide +kernel
theorem d_R_block_23 : decode b_R_block 23 = .ok (.ireturn, 1) := by decide +kernel
theorem d_R_block_24 : decode b_R_block 24 = .ok (.aload_n 0, 1) := by decide +kernel
theorem d_R_block_25 : decode b_R_block 25 = .ok (.getfield 7, 3) := by decide +kernel
theorem d_R_block_28 : decode b_R_block 28 = .ok (.aload_n 0, 1) := by decide +kernel
theorem d_R_block_29 : decode b_R_block 29 = .ok (.getfield 105, 3) := by decide +kernel
theorem d_R_block_32 : decode b_R_block 32 = .ok (.iconst 0, 1) := by decide +kernel
theorem d_R_block_33 : decode b_R_block 33 = .ok (.iastore, 1) := by decide +kernel
theorem d_R_block_34 : decode b_R_block 34 = .ok (.aload_n 0, 1) := by decide +kernel
theorem d_R_block_35 : decode b_R_block 35 = .ok (.getfield 25, 3) := by decide +kernel
theorem d_R_block_38 : decode b_R_block 38 = .ok (.aload_n 0, 1) := by decide +kernel
theorem d_R_block_39 : decode b_R_block 39 = .ok (.getfield 105, 3) := by decide +kernel
theorem d_R_block_42 : decode b_R_block 42 = .ok (.iconst 0, 1) := by decide +kernel
theorem d_R_block_43 : decode b_R_block 43 = .ok (.iastore, 1) := by decide +kernel
theorem d_R_block_44 : decode b_R_block 44 = .ok (.aload_n 0, 1) := by decide +kernel
theorem d_R_block_45 : decode b_R_block 45 = .ok (.dup, 1) := by decide +kernel
theorem d_R_block_46 : decode b_R_block 46 = .ok (.getfield 105, 3) := by decide +kernel
theorem d_R_block_49 : decode b_R_block 49 = .ok (.iconst 1, 1) := by decide +kernel
theorem d_R_block_50 : decode b_R_block 50 = .ok (.iadd, 1) := by decide +kernel
theorem d_R_block_51 : decode b_R_block 51 = .ok (.putfield 105, 3) := by decide +kernel
theorem d_R_block_54 : decode b_R_block 54 = .ok (.aload_n 0, 1) := by decide +kernel
theorem d_R_block_55 : decode b_R_block 55 = .ok (.iconst 0, 1) := by decide +kernel
theorem d_R_block_56 : decode b_R_block 56 = .ok (.putfield 112, 3) := by decide +kernel
theorem d_R_block_59 : decode b_R_block 59 = .ok (.aload_n 0, 1) := by decide +kernel
theorem d_R_block_60 : decode b_R_block 60 = .ok (.getfield 105, 3) := by decide +kernel
theorem d_R_block_63 : decode b_R_block 63 = .ok (.iconst 1, 1) := by decide +kernel
theorem d_R_block_64 : decode b_R_block 64 = .ok (.isub, 1) := by decide +kernel
theorem d_R_block_65 : decode b_R_block 65 = .ok (.ireturn, 1) := by decide +kernel
theorem d_R_put_0 : decode b_R_put 0 = .ok (.aload_n 0, 1) := by decide +kernel
theorem d_R_put_1 : decode b_R_put 1 = .ok (.iload_n 1, 1) := by decide +kernel
theorem d_R_put_2 : decode b_R_put 2 = .ok (.invokevirtual 116, 3) := by decide +kernel
theorem d_R_put_5 : decode b_R_put 5 = .ok (.ifCond .ne 57, 3) := by decide +kernel
theorem d_R_put_8 : decode b_R_put 8 = .ok (.iload_n 2, 1) := by decide +kernel
theorem d_R_put_9 : decode b_R_put 9 = .ok (.ifCond .lt 53, 3) := by decide +kernel
theorem d_R_put_12 : decode b_R_put 12 = .ok (.iload_n 2, 1) := by decide +kernel
theorem d_R_put_13 : decode b_R_put 13 = .ok (.bipush 7, 2) := by decide +kernel
theorem d_R_put_15 : decode b_R_put 15 = .ok (.if_icmp .gt 47, 3) := by decide +kernel
theorem d_R_put_18 : decode b_R_put 18 = .ok (.iload_n 2, 1) := by decide +kernel
theorem d_R_put_19 : decode b_R_put 19 = .ok (.invokestatic 120, 3) := by decide +kernel
theorem d_R_put_22 : decode b_R_put 22 = .ok (.ifCond .eq 10, 3) := by decide +kernel
theorem d_R_put_25 : decode b_R_put 25 = .ok (.iload_n 3, 1) := by decide +kernel
theorem d_R_put_26 : decode b_R_put 26 = .ok (.invokestatic 123, 3) := by decide +kernel
theorem d_R_put_29 : decode b_R_put 29 = .ok (.ifCond .ne 33, 3) := by decide +kernel
theorem d_R_put_32 : decode b_R_put 32 = .ok (.iload_n 2, 1) := by decide +kernel
theorem d_R_put_33 : decode b_R_put 33 = .ok (.invokestatic 126, 3) := by decide +kernel
theorem d_R_put_36 : decode b_R_put 36 = .ok (.ifCond .eq 11, 3) := by decide +kernel
theorem d_R_put_39 : decode b_R_put 39 = .ok (.iload 4, 2) := by decide +kernel
theorem d_R_put_41 : decode b_R_put 41 = .ok (.invokestatic 123, 3) := by decide +kernel
theorem d_R_put_44 : decode b_R_put 44 = .ok (.ifCond .ne 18, 3) := by decide +kernel
theorem d_R_put_47 : decode b_R_put 47 = .ok (.iload_n 2, 1) := by decide +kernel
theorem d_R_put_48 : decode b_R_put 48 = .ok (.invokestatic 129, 3) := by decide +kernel
theorem d_R_put_51 : decode b_R_put 51 = .ok (.ifCond .eq 15, 3) := by decide +kernel
theorem d_R_put_54 : decode b_R_put 54 = .ok (.iload 5, 2) := by decide +kernel
theorem d_R_put_56 : decode b_R_put 56 = .ok (.invokestatic 123, 3) := by decide +kernel
theorem d_R_put_59 : decode b_R_put 59 = .ok (.ifCond .eq 7, 3) := by decide +kernel
theorem d_R_put_62 : decode b_R_put 62 = .ok (.iconst 1, 1) := by decide +kernel
theorem d_R_put_63 : decode b_R_put 63 = .ok (.goto 4, 3) := by decide +kernel
theorem d_R_put_66 : decode b_R_put 66 = .ok (.iconst 0, 1) := by decide +kernel
theorem d_R_put_67 : decode b_R_put 67 = .ok (.istore 6, 2) := by decide +kernel
theorem d_R_put_69 : decode b_R_put 69 = .ok (.aload_n 0, 1) := by decide +kernel
theorem d_R_put_70 : decode b_R_put 70 = .ok (.iload 6, 2) := by decide +kernel
theorem d_R_put_72 : decode b_R_put 72 = .ok (.iconst 1, 1) := by decide +kernel
theorem d_R_put_73 : decode b_R_put 73 = .ok (.invokevirtual 108, 3) := by decide +kernel
theorem d_R_put_76 : decode b_R_put 76 = .ok (.ifCond .ne 27, 3) := by decide +kernel
theorem d_R_put_79 : decode b_R_put 79 = .ok (.aload_n 0, 1) := by decide +kernel
theorem d_R_put_80 : decode b_R_put 80 = .ok (.aload_n 0, 1) := by decide +kernel
theorem d_R_put_81 : decode b_R_put 81 = .ok (.getfield 7, 3) := by decide +kernel
theorem d_R_put_84 : decode b_R_put 84 = .ok (.iload_n 1, 1) := by decide +kernel
theorem d_R_put_85 : decode b_R_put 85 = .ok (.iaload, 1) := by decide +kernel
theorem d_R_put_86 : decode b_R_put 86 = .ok (.bipush 6, 2) := by decide +kernel
theorem d_R_put_88 : decode b_R_put 88 = .ok (.if_icmp .ne 7, 3) := by decide +kernel
theorem d_R_put_91 : decode b_R_put 91 = .ok (.iconst 1, 1) := by decide +kernel
theorem d_R_put_92 : decode b_R_put 92 = .ok (.goto 4, 3) := by decide +kernel
theorem d_R_put_95 : decode b_R_put 95 = .ok (.iconst 0, 1) := by decide +kernel
theorem d_R_put_96 : decode b_R_put 96 = .ok (.iconst 2, 1) := by decide +kernel
theorem d_R_put_97 : decode b_R_put 97 = .ok (.invokevirtual 108, 3) := by decide +kernel
theorem d_R_put_100 : decode b_R_put 100 = .ok (.ifCond .eq 5, 3) := by decide +kernel
theorem d_R_put_103 : decode b_R_put 103 = .ok (.iconst 0, 1) := by decide +kernel
theorem d_R_put_104 : decode b_R_put 104 = .ok (.ireturn, 1) := by decide +kernel
theorem d_R_put_105 : decode b_R_put 105 = .ok (.bipush 6, 2) := by decide +kernel
theorem d_R_put_107 : decode b_R_put 107 = .ok (.iload_n 1, 1) := by decide +kernel
theorem d_R_put_108 : decode b_R_put 108 = .ok (.imul, 1) := by decide +kernel
theorem d_R_put_109 : decode b_R_put 109 = .ok (.aload_n 0, 1) := by decide +kernel
theorem d_R_put_110 : decode b_R_put 110 = .ok (.getfield 7, 3) := by decide +kernel
theorem d_R_put_113 : decode b_R_put 113 = .ok (.iload_n 1, 1) := by decide +kernel
theorem d_R_put_114 : decode b_R_put 114 = .ok (.iaload, 1) := by decide +kernel
theorem d_R_put_115 : decode b_R_put 115 = .ok (.iadd, 1) := by decide +kernel
theorem d_R_put_116 : decode b_R_put 116 = .ok (.istore 7, 2) := by decide +kernel
theorem d_R_put_118 : decode b_R_put 118 = .ok (.aload_n 0, 1) := by decide +kernel
theorem d_R_put_119 : decode b_R_put 119 = .ok (.getfield 13, 3) := by decide +kernel
theorem d_R_put_122 : decode b_R_put 122 = .ok (.iload 7, 2) := by decide +kernel
theorem d_R_put_124 : decode b_R_put 124 = .ok (.iload_n 2, 1) := by decide +kernel
theorem d_R_put_125 : decode b_R_put 125 = .ok (.iastore, 1) := by decide +kernel
theorem d_R_put_126 : decode b_R_put 126 = .ok (.aload_n 0, 1) := by decide +kernel
theorem d_R_put_127 : decode b_R_put 127 = .ok (.getfield 16, 3) := by decide +kernel
theorem d_R_put_130 : decode b_R_put 130 = .ok (.iload 7, 2) := by decide +kernel
theorem d_R_put_132 : decode b_R_put 132 = .ok (.iload_n 3, 1) := by decide +kernel
theorem d_R_put_133 : decode b_R_put 133 = .ok (.iastore, 1) := by decide +kernel
theorem d_R_put_134 : decode b_R_put 134 = .ok (.aload_n 0, 1) := by decide +kernel
theorem d_R_put_135 : decode b_R_put 135 = .ok (.getfield 19, 3) := by decide +kernel
theorem d_R_put_138 : decode b_R_put 138 = .ok (.iload 7, 2) := by decide +kernel
theorem d_R_put_140 : decode b_R_put 140 = .ok (.iload 4, 2) := by decide +kernel
theorem d_R_put_142 : decode b_R_put 142 = .ok (.iastore, 1) := by decide +kernel
theorem d_R_put_143 : decode b_R_put 143 = .ok (.aload_n 0, 1) := by decide +kernel
theorem d_R_put_144 : decode b_R_put 144 = .ok (.getfield 22, 3) := by decide +kernel
theorem d_R_put_147 : decode b_R_put 147 = .ok (.iload 7, 2) := by decide +kernel
theorem d_R_put_149 : decode b_R_put 149 = .ok (.iload 5, 2) := by decide +kernel
theorem d_R_put_151 : decode b_R_put 151 = .ok (.iastore, 1) := by decide +kernel
theorem d_R_put_152 : decode b_R_put 152 = .ok (.aload_n 0, 1) := by decide +kernel
theorem d_R_put_153 : decode b_R_put 153 = .ok (.getfield 7, 3) := by decide +kernel
theorem d_R_put_156 : decode b_R_put 156 = .ok (.iload_n 1, 1) := by decide +kernel
theorem d_R_put_157 : decode b_R_put 157 = .ok (.dup2, 1) := by decide +kernel
theorem d_R_put_158 : decode b_R_put 158 = .ok (.iaload, 1) := by decide +kernel
theorem d_R_put_159 : decode b_R_put 159 = .ok (.iconst 1, 1) := by decide +kernel
theorem d_R_put_160 : decode b_R_put 160 = .ok (.iadd, 1) := by decide +kernel
theorem d_R_put_161 : decode b_R_put 161 = .ok (.iastore, 1) := by decide +kernel
theorem d_R_put_162 : decode b_R_put 162 = .ok (.aload_n 0, 1) := by decide +kernel
theorem d_R_put_163 : decode b_R_put 163 = .ok (.iconst 0, 1) := by decide +kernel
theorem d_R_put_164 : decode b_R_put 164 = .ok (.putfield 112, 3) := by decide +kernel
theorem d_R_put_167 : decode b_R_put 167 = .ok (.aload_n 0, 1) := by decide +kernel
theorem d_R_put_168 : decode b_R_put 168 = .ok (.getfield 7, 3) := by decide +kernel
theorem d_R_put_171 : decode b_R_put 171 = .ok (.iload_n 1, 1) := by decide +kernel
theorem d_R_put_172 : decode b_R_put 172 = .ok (.iaload, 1) := by decide +kernel
theorem d_R_put_173 : decode b_R_put 173 = .ok (.ireturn, 1) := by decide +kernel
theorem d_R_noTarget_0 : decode b_R_noTarget 0 = .ok (.iload_n 1, 1) := by decide +kernel
theorem d_R_noTarget_1 : decode b_R_noTarget 1 = .ok (.iconst 1, 1) := by decide +kernel
theorem d_R_noTarget_2 : decode b_R_noTarget 2 = .ok (.if_icmp .lt 11, 3) := by decide +kernel
theorem d_R_noTarget_5 : decode b_R_noTarget 5 = .ok (.iload_n 1, 1) := by decide +kernel
theorem d_R_noTarget_6 : decode b_R_noTarget 6 = .ok (.aload_n 0, 1) := by decide +kernel
theorem d_R_noTarget_7 : decode b_R_noTarget 7 = .ok (.getfield 105, 3) := by decide +kernel
theorem d_R_noTarget_10 : decode b_R_noTarget 10 = .ok (.if_icmp .lt 7, 3) := by decide +kernel
theorem d_R_noTarget_13 : decode b_R_noTarget 13 = .ok (.iconst 1, 1) := by decide +kernel
theorem d_R_noTarget_14 : decode b_R_noTarget 14 = .ok (.goto 4, 3) := by decide +kernel
theorem d_R_noTarget_17 : decode b_R_noTarget 17 = .ok (.iconst 0, 1) := by decide +kernel
theorem d_R_noTarget_18 : decode b_R_noTarget 18 = .ok (.ireturn, 1) := by decide +kernel
theorem d_R_go_0 : decode b_R_go 0 = .ok (.aload_n 0, 1) := by decide +kernel
theorem d_R_go_1 : decode b_R_go 1 = .ok (.aload_n 0, 1) := by decide +kernel
theorem d_R_go_2 : decode b_R_go 2 = .ok (.iload_n 1, 1) := by decide +kernel
theorem d_R_go_3 : decode b_R_go 3 = .ok (.invokevirtual 116, 3) := by decide +kernel
theorem d_R_go_6 : decode b_R_go 6 = .ok (.ifCond .ne 11, 3) := by decide +kernel
theorem d_R_go_9 : decode b_R_go 9 = .ok (.aload_n 0, 1) := by decide +kernel
theorem d_R_go_10 : decode b_R_go 10 = .ok (.iload_n 2, 1) := by decide +kernel
theorem d_R_go_11 : decode b_R_go 11 = .ok (.invokevirtual 132, 3) := by decide +kernel
theorem d_R_go_14 : decode b_R_go 14 = .ok (.ifCond .eq 7, 3) := by decide +kernel
theorem d_R_go_17 : decode b_R_go 17 = .ok (.iconst 1, 1) := by decide +kernel
theorem d_R_go_18 : decode b_R_go 18 = .ok (.goto 4, 3) := by decide +kernel
theorem d_R_go_21 : decode b_R_go 21 = .ok (.iconst 0, 1) := by decide +kernel
theorem d_R_go_22 : decode b_R_go 22 = .ok (.iconst 1, 1) := by decide +kernel
theorem d_R_go_23 : decode b_R_go 23 = .ok (.invokevirtual 108, 3) := by decide +kernel
theorem d_R_go_26 : decode b_R_go 26 = .ok (.ifCond .eq 4, 3) := by decide +kernel
theorem d_R_go_29 : decode b_R_go 29 = .ok (.return_, 1) := by decide +kernel
theorem d_R_go_30 : decode b_R_go 30 = .ok (.aload_n 0, 1) := by decide +kernel
theorem d_R_go_31 : decode b_R_go 31 = .ok (.getfield 25, 3) := by decide +kernel
theorem d_R_go_34 : decode b_R_go 34 = .ok (.iload_n 1, 1) := by decide +kernel
theorem d_R_go_35 : decode b_R_go 35 = .ok (.iconst 1, 1) := by decide +kernel
theorem d_R_go_36 : decode b_R_go 36 = .ok (.iastore, 1) := by decide +kernel
theorem d_R_go_37 : decode b_R_go 37 = .ok (.aload_n 0, 1) := by decide +kernel
theorem d_R_go_38 : decode b_R_go 38 = .ok (.getfield 31, 3) := by decide +kernel
theorem d_R_go_41 : decode b_R_go 41 = .ok (.iload_n 1, 1) := by decide +kernel
theorem d_R_go_42 : decode b_R_go 42 = .ok (.iload_n 2, 1) := by decide +kernel
theorem d_R_go_43 : decode b_R_go 43 = .ok (.iastore, 1) := by decide +kernel
theorem d_R_go_44 : decode b_R_go 44 = .ok (.aload_n 0, 1) := by decide +kernel
theorem d_R_go_45 : decode b_R_go 45 = .ok (.iconst 0, 1) := by decide +kernel
theorem d_R_go_46 : decode b_R_go 46 = .ok (.putfield 112, 3) := by decide +kernel
theorem d_R_go_49 : decode b_R_go 49 = .ok (.return_, 1) := by decide +kernel
theorem d_R_fork_0 : decode b_R_fork 0 = .ok (.aload_n 0, 1) := by decide +kernel
theorem d_R_fork_1 : decode b_R_fork 1 = .ok (.aload_n 0, 1) := by decide +kernel
theorem d_R_fork_2 : decode b_R_fork 2 = .ok (.iload_n 1, 1) := by decide +kernel
theorem d_R_fork_3 : decode b_R_fork 3 = .ok (.invokevirtual 116, 3) := by decide +kernel
theorem d_R_fork_6 : decode b_R_fork 6 = .ok (.ifCond .ne 27, 3) := by decide +kernel
theorem d_R_fork_9 : decode b_R_fork 9 = .ok (.iload_n 2, 1) := by decide +kernel
theorem d_R_fork_10 : decode b_R_fork 10 = .ok (.invokestatic 123, 3) := by decide +kernel
theorem d_R_fork_13 : decode b_R_fork 13 = .ok (.ifCond .ne 20, 3) := by decide +kernel
theorem d_R_fork_16 : decode b_R_fork 16 = .ok (.aload_n 0, 1) := by decide +kernel
theorem d_R_fork_17 : decode b_R_fork 17 = .ok (.iload_n 3, 1) := by decide +kernel
theorem d_R_fork_18 : decode b_R_fork 18 = .ok (.invokevirtual 132, 3) := by decide +kernel
theorem d_R_fork_21 : decode b_R_fork 21 = .ok (.ifCond .ne 12, 3) := by decide +kernel
theorem d_R_fork_24 : decode b_R_fork 24 = .ok (.aload_n 0, 1) := by decide +kernel
theorem d_R_fork_25 : decode b_R_fork 25 = .ok (.iload 4, 2) := by decide +kernel
theorem d_R_fork_27 : decode b_R_fork 27 = .ok (.invokevirtual 132, 3) := by decide +kernel
theorem d_R_fork_30 : decode b_R_fork 30 = .ok (.ifCond .eq 7, 3) := by decide +kernel
theorem d_R_fork_33 : decode b_R_fork 33 = .ok (.iconst 1, 1) := by decide +kernel
theorem d_R_fork_34 : decode b_R_fork 34 = .ok (.goto 4, 3) := by decide +kernel
theorem d_R_fork_37 : decode b_R_fork 37 = .ok (.iconst 0, 1) := by decide +kernel
theorem d_R_fork_38 : decode b_R_fork 38 = .ok (.iconst 1, 1) := by decide +kernel
theorem d_R_fork_39 : decode b_R_fork 39 = .ok (.invokevirtual 108, 3) := by decide +kernel
theorem d_R_fork_42 : decode b_R_fork 42 = .ok (.ifCond .eq 4, 3) := by decide +kernel
theorem d_R_fork_45 : decode b_R_fork 45 = .ok (.return_, 1) := by decide +kernel
theorem d_R_fork_46 : decode b_R_fork 46 = .ok (.aload_n 0, 1) := by decide +kernel
theorem d_R_fork_47 : decode b_R_fork 47 = .ok (.getfield 25, 3) := by decide +kernel
theorem d_R_fork_50 : decode b_R_fork 50 = .ok (.iload_n 1, 1) := by decide +kernel
theorem d_R_fork_51 : decode b_R_fork 51 = .ok (.iconst 2, 1) := by decide +kernel
theorem d_R_fork_52 : decode b_R_fork 52 = .ok (.iastore, 1) := by decide +kernel
theorem d_R_fork_53 : decode b_R_fork 53 = .ok (.aload_n 0, 1) := by decide +kernel
theorem d_R_fork_54 : decode b_R_fork 54 = .ok (.getfield 28, 3) := by decide +kernel
theorem d_R_fork_57 : decode b_R_fork 57 = .ok (.iload_n 1, 1) := by decide +kernel
theorem d_R_fork_58 : decode b_R_fork 58 = .ok (.iload_n 2, 1) := by decide +kernel
theorem d_R_fork_59 : decode b_R_fork 59 = .ok (.iastore, 1) := by decide +kernel
theorem d_R_fork_60 : decode b_R_fork 60 = .ok (.aload_n 0, 1) := by decide +kernel
theorem d_R_fork_61 : decode b_R_fork 61 = .ok (.getfield 31, 3) := by decide +kernel
theorem d_R_fork_64 : decode b_R_fork 64 = .ok (.iload_n 1, 1) := by decide +kernel
theorem d_R_fork_65 : decode b_R_fork 65 = .ok (.iload_n 3, 1) := by decide +kernel
theorem d_R_fork_66 : decode b_R_fork 66 = .ok (.iastore, 1) := by decide +kernel
theorem d_R_fork_67 : decode b_R_fork 67 = .ok (.aload_n 0, 1) := by decide +kernel
theorem d_R_fork_68 : decode b_R_fork 68 = .ok (.getfield 34, 3) := by decide +kernel
theorem d_R_fork_71 : decode b_R_fork 71 = .ok (.iload_n 1, 1) := by decide +kernel
theorem d_R_fork_72 : decode b_R_fork 72 = .ok (.iload 4, 2) := by decide +kernel
theorem d_R_fork_74 : decode b_R_fork 74 = .ok (.iastore, 1) := by decide +kernel
theorem d_R_fork_75 : decode b_R_fork 75 = .ok (.aload_n 0, 1) := by decide +kernel
theorem d_R_fork_76 : decode b_R_fork 76 = .ok (.iconst 0, 1) := by decide +kernel
theorem d_R_fork_77 : decode b_R_fork 77 = .ok (.putfield 112, 3) := by decide +kernel
theorem d_R_fork_80 : decode b_R_fork 80 = .ok (.return_, 1) := by decide +kernel
theorem d_R_stop_0 : decode b_R_stop 0 = .ok (.aload_n 0, 1) := by decide +kernel
theorem d_R_stop_1 : decode b_R_stop 1 = .ok (.aload_n 0, 1) := by decide +kernel
theorem d_R_stop_2 : decode b_R_stop 2 = .ok (.iload_n 1, 1) := by decide +kernel
theorem d_R_stop_3 : decode b_R_stop 3 = .ok (.invokevirtual 116, 3) := by decide +kernel
theorem d_R_stop_6 : decode b_R_stop 6 = .ok (.iconst 1, 1) := by decide +kernel
theorem d_R_stop_7 : decode b_R_stop 7 = .ok (.invokevirtual 108, 3) := by decide +kernel
theorem d_R_stop_10 : decode b_R_stop 10 = .ok (.ifCond .eq 4, 3) := by decide +kernel
theorem d_R_stop_13 : decode b_R_stop 13 = .ok (.return_, 1) := by decide +kernel
theorem d_R_stop_14 : decode b_R_stop 14 = .ok (.aload_n 0, 1) := by decide +kernel
theorem d_R_stop_15 : decode b_R_stop 15 = .ok (.getfield 25, 3) := by decide +kernel
theorem d_R_stop_18 : decode b_R_stop 18 = .ok (.iload_n 1, 1) := by decide +kernel
theorem d_R_stop_19 : decode b_R_stop 19 = .ok (.iconst 0, 1) := by decide +kernel
theorem d_R_stop_20 : decode b_R_stop 20 = .ok (.iastore, 1) := by decide +kernel
theorem d_R_stop_21 : decode b_R_stop 21 = .ok (.aload_n 0, 1) := by decide +kernel
theorem d_R_stop_22 : decode b_R_stop 22 = .ok (.iconst 0, 1) := by decide +kernel
theorem d_R_stop_23 : decode b_R_stop 23 = .ok (.putfield 112, 3) := by decide +kernel
theorem d_R_stop_26 : decode b_R_stop 26 = .ok (.return_, 1) := by decide +kernel
theorem d_R_clear_0 : decode b_R_clear 0 = .ok (.aload_n 0, 1) := by decide +kernel
theorem d_R_clear_1 : decode b_R_clear 1 = .ok (.iconst 0, 1) := by decide +kernel
theorem d_R_clear_2 : decode b_R_clear 2 = .ok (.putfield 101, 3) := by decide +kernel
theorem d_R_clear_5 : decode b_R_clear 5 = .ok (.aload_n 0, 1) := by decide +kernel
theorem d_R_clear_6 : decode b_R_clear 6 = .ok (.iconst 0, 1) := by decide +kernel
theorem d_R_clear_7 : decode b_R_clear 7 = .ok (.putfield 105, 3) := by decide +kernel
theorem d_R_clear_10 : decode b_R_clear 10 = .ok (.aload_n 0, 1) := by decide +kernel
theorem d_R_clear_11 : decode b_R_clear 11 = .ok (.iconst 0, 1) := by decide +kernel
theorem d_R_clear_12 : decode b_R_clear 12 = .ok (.putfield 112, 3) := by decide +kernel
theorem d_R_clear_15 : decode b_R_clear 15 = .ok (.return_, 1) := by decide +kernel
theorem d_R_has_0 : decode b_R_has 0 = .ok (.iload_n 0, 1) := by decide +kernel
theorem d_R_has_1 : decode b_R_has 1 = .ok (.iload_n 1, 1) := by decide +kernel
theorem d_R_has_2 : decode b_R_has 2 = .ok (.ishr, 1) := by decide +kernel
theorem d_R_has_3 : decode b_R_has 3 = .ok (.iconst 1, 1) := by decide +kernel
theorem d_R_has_4 : decode b_R_has 4 = .ok (.iand, 1) := by decide +kernel
theorem d_R_has_5 : decode b_R_has 5 = .ok (.iconst 1, 1) := by decide +kernel
theorem d_R_has_6 : decode b_R_has 6 = .ok (.if_icmp .ne 7, 3) := by decide +kernel
theorem d_R_has_9 : decode b_R_has 9 = .ok (.iconst 1, 1) := by decide +kernel
theorem d_R_has_10 : decode b_R_has 10 = .ok (.goto 4, 3) := by decide +kernel
theorem d_R_has_13 : decode b_R_has 13 = .ok (.iconst 0, 1) := by decide +kernel
theorem d_R_has_14 : decode b_R_has 14 = .ok (.ireturn, 1) := by decide +kernel
theorem d_R_leadsTo_0 : decode b_R_leadsTo 0 = .ok (.aload_n 0, 1) := by decide +kernel
theorem d_R_leadsTo_1 : decode b_R_leadsTo 1 = .ok (.getfield 25, 3) := by decide +kernel
theorem d_R_leadsTo_4 : decode b_R_leadsTo 4 = .ok (.iload_n 1, 1) := by decide +kernel
theorem d_R_leadsTo_5 : decode b_R_leadsTo 5 = .ok (.iaload, 1) := by decide +kernel
theorem d_R_leadsTo_6 : decode b_R_leadsTo 6 = .ok (.ifCond .ne 7, 3) := by decide +kernel
theorem d_R_leadsTo_9 : decode b_R_leadsTo 9 = .ok (.iconst 0, 1) := by decide +kernel
theorem d_R_leadsTo_10 : decode b_R_leadsTo 10 = .ok (.goto 41, 3) := by decide +kernel
theorem d_R_leadsTo_13 : decode b_R_leadsTo 13 = .ok (.aload_n 0, 1) := by decide +kernel
theorem d_R_leadsTo_14 : decode b_R_leadsTo 14 = .ok (.getfield 25, 3) := by decide +kernel
theorem d_R_leadsTo_17 : decode b_R_leadsTo 17 = .ok (.iload_n 1, 1) := by decide +kernel
theorem d_R_leadsTo_18 : decode b_R_leadsTo 18 = .ok (.iaload, 1) := by decide +kernel
theorem d_R_leadsTo_19 : decode b_R_leadsTo 19 = .ok (.iconst 1, 1) := by decide +kernel
theorem d_R_leadsTo_20 : decode b_R_leadsTo 20 = .ok (.if_icmp .ne 14, 3) := by decide +kernel
theorem d_R_leadsTo_23 : decode b_R_leadsTo 23 = .ok (.iconst 1, 1) := by decide +kernel
theorem d_R_leadsTo_24 : decode b_R_leadsTo 24 = .ok (.aload_n 0, 1) := by decide +kernel
theorem d_R_leadsTo_25 : decode b_R_leadsTo 25 = .ok (.getfield 31, 3) := by decide +kernel
theorem d_R_leadsTo_28 : decode b_R_leadsTo 28 = .ok (.iload_n 1, 1) := by decide +kernel
theorem d_R_leadsTo_29 : decode b_R_leadsTo 29 = .ok (.iaload, 1) := by decide +kernel
theorem d_R_leadsTo_30 : decode b_R_leadsTo 30 = .ok (.ishl, 1) := by decide +kernel
theorem d_R_leadsTo_31 : decode b_R_leadsTo 31 = .ok (.goto 20, 3) := by decide +kernel
theorem d_R_leadsTo_34 : decode b_R_leadsTo 34 = .ok (.iconst 1, 1) := by decide +kernel
theorem d_R_leadsTo_35 : decode b_R_leadsTo 35 = .ok (.aload_n 0, 1) := by decide +kernel
theorem d_R_leadsTo_36 : decode b_R_leadsTo 36 = .ok (.getfield 31, 3) := by decide +kernel
theorem d_R_leadsTo_39 : decode b_R_leadsTo 39 = .ok (.iload_n 1, 1) := by decide +kernel
theorem d_R_leadsTo_40 : decode b_R_leadsTo 40 = .ok (.iaload, 1) := by decide +kernel
theorem d_R_leadsTo_41 : decode b_R_leadsTo 41 = .ok (.ishl, 1) := by decide +kernel
theorem d_R_leadsTo_42 : decode b_R_leadsTo 42 = .ok (.iconst 1, 1) := by decide +kernel
theorem d_R_leadsTo_43 : decode b_R_leadsTo 43 = .ok (.aload_n 0, 1) := by decide +kernel
theorem d_R_leadsTo_44 : decode b_R_leadsTo 44 = .ok (.getfield 34, 3) := by decide +kernel
theorem d_R_leadsTo_47 : decode b_R_leadsTo 47 = .ok (.iload_n 1, 1) := by decide +kernel
theorem d_R_leadsTo_48 : decode b_R_leadsTo 48 = .ok (.iaload, 1) := by decide +kernel
theorem d_R_leadsTo_49 : decode b_R_leadsTo 49 = .ok (.ishl, 1) := by decide +kernel
theorem d_R_leadsTo_50 : decode b_R_leadsTo 50 = .ok (.ior, 1) := by decide +kernel
theorem d_R_leadsTo_51 : decode b_R_leadsTo 51 = .ok (.ireturn, 1) := by decide +kernel
theorem d_R_reaches_0 : decode b_R_reaches 0 = .ok (.aload_n 0, 1) := by decide +kernel
theorem d_R_reaches_1 : decode b_R_reaches 1 = .ok (.iconst 1, 1) := by decide +kernel
theorem d_R_reaches_2 : decode b_R_reaches 2 = .ok (.putfield 135, 3) := by decide +kernel
theorem d_R_reaches_5 : decode b_R_reaches 5 = .ok (.iconst 0, 1) := by decide +kernel
theorem d_R_reaches_6 : decode b_R_reaches 6 = .ok (.istore_n 1, 1) := by decide +kernel
theorem d_R_reaches_7 : decode b_R_reaches 7 = .ok (.iload_n 1, 1) := by decide +kernel
theorem d_R_reaches_8 : decode b_R_reaches 8 = .ok (.bipush 10, 2) := by decide +kernel
theorem d_R_reaches_10 : decode b_R_reaches 10 = .ok (.if_icmp .ge 50, 3) := by decide +kernel
theorem d_R_reaches_13 : decode b_R_reaches 13 = .ok (.iconst 0, 1) := by decide +kernel
theorem d_R_reaches_14 : decode b_R_reaches 14 = .ok (.istore_n 2, 1) := by decide +kernel
theorem d_R_reaches_15 : decode b_R_reaches 15 = .ok (.iload_n 2, 1) := by decide +kernel
theorem d_R_reaches_16 : decode b_R_reaches 16 = .ok (.aload_n 0, 1) := by decide +kernel
theorem d_R_reaches_17 : decode b_R_reaches 17 = .ok (.getfield 105, 3) := by decide +kernel
theorem d_R_reaches_20 : decode b_R_reaches 20 = .ok (.if_icmp .ge 34, 3) := by decide +kernel
theorem d_R_reaches_23 : decode b_R_reaches 23 = .ok (.aload_n 0, 1) := by decide +kernel
theorem d_R_reaches_24 : decode b_R_reaches 24 = .ok (.getfield 135, 3) := by decide +kernel
theorem d_R_reaches_27 : decode b_R_reaches 27 = .ok (.iload_n 2, 1) := by decide +kernel
theorem d_R_reaches_28 : decode b_R_reaches 28 = .ok (.invokestatic 138, 3) := by decide +kernel
theorem d_R_reaches_31 : decode b_R_reaches 31 = .ok (.ifCond .eq 17, 3) := by decide +kernel
theorem d_R_reaches_34 : decode b_R_reaches 34 = .ok (.aload_n 0, 1) := by decide +kernel
theorem d_R_reaches_35 : decode b_R_reaches 35 = .ok (.dup, 1) := by decide +kernel
theorem d_R_reaches_36 : decode b_R_reaches 36 = .ok (.getfield 135, 3) := by decide +kernel
theorem d_R_reaches_39 : decode b_R_reaches 39 = .ok (.aload_n 0, 1) := by decide +kernel
theorem d_R_reaches_40 : decode b_R_reaches 40 = .ok (.iload_n 2, 1) := by decide +kernel
theorem d_R_reaches_41 : decode b_R_reaches 41 = .ok (.invokevirtual 142, 3) := by decide +kernel
theorem d_R_reaches_44 : decode b_R_reaches 44 = .ok (.ior, 1) := by decide +kernel
theorem d_R_reaches_45 : decode b_R_reaches 45 = .ok (.putfield 135, 3) := by decide +kernel
theorem d_R_reaches_48 : decode b_R_reaches 48 = .ok (.iinc 2 1, 3) := by decide +kernel
theorem d_R_reaches_51 : decode b_R_reaches 51 = .ok (.goto (-36), 3) := by decide +kernel
theorem d_R_reaches_54 : decode b_R_reaches 54 = .ok (.iinc 1 1, 3) := by decide +kernel
theorem d_R_reaches_57 : decode b_R_reaches 57 = .ok (.goto (-50), 3) := by decide +kernel
theorem d_R_reaches_60 : decode b_R_reaches 60 = .ok (.iconst 0, 1) := by decide +kernel
theorem d_R_reaches_61 : decode b_R_reaches 61 = .ok (.istore_n 1, 1) := by decide +kernel
theorem d_R_reaches_62 : decode b_R_reaches 62 = .ok (.iload_n 1, 1) := by decide +kernel
theorem d_R_reaches_63 : decode b_R_reaches 63 = .ok (.aload_n 0, 1) := by decide +kernel
theorem d_R_reaches_64 : decode b_R_reaches 64 = .ok (.getfield 105, 3) := by decide +kernel
theorem d_R_reaches_67 : decode b_R_reaches 67 = .ok (.if_icmp .ge 67, 3) := by decide +kernel
theorem d_R_reaches_70 : decode b_R_reaches 70 = .ok (.aload_n 0, 1) := by decide +kernel
theorem d_R_reaches_71 : decode b_R_reaches 71 = .ok (.getfield 40, 3) := by decide +kernel
theorem d_R_reaches_74 : decode b_R_reaches 74 = .ok (.iload_n 1, 1) := by decide +kernel
theorem d_R_reaches_75 : decode b_R_reaches 75 = .ok (.iconst 0, 1) := by decide +kernel
theorem d_R_reaches_76 : decode b_R_reaches 76 = .ok (.iastore, 1) := by decide +kernel
theorem d_R_reaches_77 : decode b_R_reaches 77 = .ok (.iconst 0, 1) := by decide +kernel
theorem d_R_reaches_78 : decode b_R_reaches 78 = .ok (.istore_n 2, 1) := by decide +kernel
theorem d_R_reaches_79 : decode b_R_reaches 79 = .ok (.iload_n 2, 1) := by decide +kernel
theorem d_R_reaches_80 : decode b_R_reaches 80 = .ok (.aload_n 0, 1) := by decide +kernel
theorem d_R_reaches_81 : decode b_R_reaches 81 = .ok (.getfield 105, 3) := by decide +kernel
theorem d_R_reaches_84 : decode b_R_reaches 84 = .ok (.if_icmp .ge 44, 3) := by decide +kernel
theorem d_R_reaches_87 : decode b_R_reaches 87 = .ok (.aload_n 0, 1) := by decide +kernel
theorem d_R_reaches_88 : decode b_R_reaches 88 = .ok (.getfield 135, 3) := by decide +kernel
theorem d_R_reaches_91 : decode b_R_reaches 91 = .ok (.iload_n 2, 1) := by decide +kernel
theorem d_R_reaches_92 : decode b_R_reaches 92 = .ok (.invokestatic 138, 3) := by decide +kernel
theorem d_R_reaches_95 : decode b_R_reaches 95 = .ok (.ifCond .eq 27, 3) := by decide +kernel
theorem d_R_reaches_98 : decode b_R_reaches 98 = .ok (.aload_n 0, 1) := by decide +kernel
theorem d_R_reaches_99 : decode b_R_reaches 99 = .ok (.iload_n 2, 1) := by decide +kernel
theorem d_R_reaches_100 : decode b_R_reaches 100 = .ok (.invokevirtual 142, 3) := by decide +kernel
theorem d_R_reaches_103 : decode b_R_reaches 103 = .ok (.iload_n 1, 1) := by decide +kernel
theorem d_R_reaches_104 : decode b_R_reaches 104 = .ok (.invokestatic 138, 3) := by decide +kernel
theorem d_R_reaches_107 : decode b_R_reaches 107 = .ok (.ifCond .eq 15, 3) := by decide +kernel
theorem d_R_reaches_110 : decode b_R_reaches 110 = .ok (.aload_n 0, 1) := by decide +kernel
theorem d_R_reaches_111 : decode b_R_reaches 111 = .ok (.getfield 40, 3) := by decide +kernel
theorem d_R_reaches_114 : decode b_R_reaches 114 = .ok (.iload_n 1, 1) := by decide +kernel
theorem d_R_reaches_115 : decode b_R_reaches 115 = .ok (.dup2, 1) := by decide +kernel
theorem d_R_reaches_116 : decode b_R_reaches 116 = .ok (.iaload, 1) := by decide +kernel
theorem d_R_reaches_117 : decode b_R_reaches 117 = .ok (.iconst 1, 1) := by decide +kernel
theorem d_R_reaches_118 : decode b_R_reaches 118 = .ok (.iload_n 2, 1) := by decide +kernel
theorem d_R_reaches_119 : decode b_R_reaches 119 = .ok (.ishl, 1) := by decide +kernel
theorem d_R_reaches_120 : decode b_R_reaches 120 = .ok (.ior, 1) := by decide +kernel
theorem d_R_reaches_121 : decode b_R_reaches 121 = .ok (.iastore, 1) := by decide +kernel
theorem d_R_reaches_122 : decode b_R_reaches 122 = .ok (.iinc 2 1, 3) := by decide +kernel
theorem d_R_reaches_125 : decode b_R_reaches 125 = .ok (.goto (-46), 3) := by decide +kernel
theorem d_R_reaches_128 : decode b_R_reaches 128 = .ok (.iinc 1 1, 3) := by decide +kernel
theorem d_R_reaches_131 : decode b_R_reaches 131 = .ok (.goto (-69), 3) := by decide +kernel
theorem d_R_reaches_134 : decode b_R_reaches 134 = .ok (.return_, 1) := by decide +kernel
theorem d_R_ones_0 : decode b_R_ones 0 = .ok (.iconst 0, 1) := by decide +kernel
theorem d_R_ones_1 : decode b_R_ones 1 = .ok (.istore_n 1, 1) := by decide +kernel
theorem d_R_ones_2 : decode b_R_ones 2 = .ok (.iconst 0, 1) := by decide +kernel
theorem d_R_ones_3 : decode b_R_ones 3 = .ok (.istore_n 2, 1) := by decide +kernel
theorem d_R_ones_4 : decode b_R_ones 4 = .ok (.iload_n 2, 1) := by decide +kernel
theorem d_R_ones_5 : decode b_R_ones 5 = .ok (.bipush 10, 2) := by decide +kernel
theorem d_R_ones_7 : decode b_R_ones 7 = .ok (.if_icmp .ge 17, 3) := by decide +kernel
theorem d_R_ones_10 : decode b_R_ones 10 = .ok (.iload_n 1, 1) := by decide +kernel
theorem d_R_ones_11 : decode b_R_ones 11 = .ok (.iload_n 0, 1) := by decide +kernel
theorem d_R_ones_12 : decode b_R_ones 12 = .ok (.iload_n 2, 1) := by decide +kernel
theorem d_R_ones_13 : decode b_R_ones 13 = .ok (.ishr, 1) := by decide +kernel
theorem d_R_ones_14 : decode b_R_ones 14 = .ok (.iconst 1, 1) := by decide +kernel
theorem d_R_ones_15 : decode b_R_ones 15 = .ok (.iand, 1) := by decide +kernel
theorem d_R_ones_16 : decode b_R_ones 16 = .ok (.iadd, 1) := by decide +kernel
theorem d_R_ones_17 : decode b_R_ones 17 = .ok (.istore_n 1, 1) := by decide +kernel
theorem d_R_ones_18 : decode b_R_ones 18 = .ok (.iinc 2 1, 3) := by decide +kernel
theorem d_R_ones_21 : decode b_R_ones 21 = .ok (.goto (-17), 3) := by decide +kernel
theorem d_R_ones_24 : decode b_R_ones 24 = .ok (.iload_n 1, 1) := by decide +kernel
theorem d_R_ones_25 : decode b_R_ones 25 = .ok (.ireturn, 1) := by decide +kernel
theorem d_R_dominates_0 : decode b_R_dominates 0 = .ok (.iconst 0, 1) := by decide +kernel
theorem d_R_dominates_1 : decode b_R_dominates 1 = .ok (.istore_n 1, 1) := by decide +kernel
theorem d_R_dominates_2 : decode b_R_dominates 2 = .ok (.iload_n 1, 1) := by decide +kernel
theorem d_R_dominates_3 : decode b_R_dominates 3 = .ok (.aload_n 0, 1) := by decide +kernel
theorem d_R_dominates_4 : decode b_R_dominates 4 = .ok (.getfield 105, 3) := by decide +kernel
theorem d_R_dominates_7 : decode b_R_dominates 7 = .ok (.if_icmp .ge 27, 3) := by decide +kernel
theorem d_R_dominates_10 : decode b_R_dominates 10 = .ok (.aload_n 0, 1) := by decide +kernel
theorem d_R_dominates_11 : decode b_R_dominates 11 = .ok (.getfield 37, 3) := by decide +kernel
theorem d_R_dominates_14 : decode b_R_dominates 14 = .ok (.iload_n 1, 1) := by decide +kernel
theorem d_R_dominates_15 : decode b_R_dominates 15 = .ok (.iload_n 1, 1) := by decide +kernel
theorem d_R_dominates_16 : decode b_R_dominates 16 = .ok (.ifCond .ne 7, 3) := by decide +kernel
theorem d_R_dominates_19 : decode b_R_dominates 19 = .ok (.iconst 1, 1) := by decide +kernel
theorem d_R_dominates_20 : decode b_R_dominates 20 = .ok (.goto 7, 3) := by decide +kernel
theorem d_R_dominates_23 : decode b_R_dominates 23 = .ok (.aload_n 0, 1) := by decide +kernel
theorem d_R_dominates_24 : decode b_R_dominates 24 = .ok (.getfield 135, 3) := by decide +kernel
theorem d_R_dominates_27 : decode b_R_dominates 27 = .ok (.iastore, 1) := by decide +kernel
theorem d_R_dominates_28 : decode b_R_dominates 28 = .ok (.iinc 1 1, 3) := by decide +kernel
theorem d_R_dominates_31 : decode b_R_dominates 31 = .ok (.goto (-29), 3) := by decide +kernel
theorem d_R_dominates_34 : decode b_R_dominates 34 = .ok (.iconst 0, 1) := by decide +kernel
theorem d_R_dominates_35 : decode b_R_dominates 35 = .ok (.istore_n 1, 1) := by decide +kernel
theorem d_R_dominates_36 : decode b_R_dominates 36 = .ok (.iload_n 1, 1) := by decide +kernel
theorem d_R_dominates_37 : decode b_R_dominates 37 = .ok (.bipush 11, 2) := by decide +kernel
theorem d_R_dominates_39 : decode b_R_dominates 39 = .ok (.if_icmp .ge 97, 3) := by decide +kernel
theorem d_R_dominates_42 : decode b_R_dominates 42 = .ok (.iconst 1, 1) := by decide +kernel
theorem d_R_dominates_43 : decode b_R_dominates 43 = .ok (.istore_n 2, 1) := by decide +kernel
theorem d_R_dominates_44 : decode b_R_dominates 44 = .ok (.iload_n 2, 1) := by decide +kernel
theorem d_R_dominates_45 : decode b_R_dominates 45 = .ok (.aload_n 0, 1) := by decide +kernel
theorem d_R_dominates_46 : decode b_R_dominates 46 = .ok (.getfield 105, 3) := by decide +kernel
theorem d_R_dominates_49 : decode b_R_dominates 49 = .ok (.if_icmp .ge 81, 3) := by decide +kernel
theorem d_R_dominates_52 : decode b_R_dominates 52 = .ok (.aload_n 0, 1) := by decide +kernel
theorem d_R_dominates_53 : decode b_R_dominates 53 = .ok (.getfield 135, 3) := by decide +kernel
theorem d_R_dominates_56 : decode b_R_dominates 56 = .ok (.iload_n 2, 1) := by decide +kernel
theorem d_R_dominates_57 : decode b_R_dominates 57 = .ok (.invokestatic 138, 3) := by decide +kernel
theorem d_R_dominates_60 : decode b_R_dominates 60 = .ok (.ifCond .ne 6, 3) := by decide +kernel
theorem d_R_dominates_63 : decode b_R_dominates 63 = .ok (.goto 61, 3) := by decide +kernel
theorem d_R_dominates_66 : decode b_R_dominates 66 = .ok (.aload_n 0, 1) := by decide +kernel
theorem d_R_dominates_67 : decode b_R_dominates 67 = .ok (.getfield 135, 3) := by decide +kernel
theorem d_R_dominates_70 : decode b_R_dominates 70 = .ok (.istore_n 3, 1) := by decide +kernel
theorem d_R_dominates_71 : decode b_R_dominates 71 = .ok (.iconst 0, 1) := by decide +kernel
theorem d_R_dominates_72 : decode b_R_dominates 72 = .ok (.istore 4, 2) := by decide +kernel
theorem d_R_dominates_74 : decode b_R_dominates 74 = .ok (.iload 4, 2) := by decide +kernel
theorem d_R_dominates_76 : decode b_R_dominates 76 = .ok (.aload_n 0, 1) := by decide +kernel
theorem d_R_dominates_77 : decode b_R_dominates 77 = .ok (.getfield 105, 3) := by decide +kernel
theorem d_R_dominates_80 : decode b_R_dominates 80 = .ok (.if_icmp .ge 33, 3) := by decide +kernel
theorem d_R_dominates_83 : decode b_R_dominates 83 = .ok (.aload_n 0, 1) := by decide +kernel
theorem d_R_dominates_84 : decode b_R_dominates 84 = .ok (.getfield 40, 3) := by decide +kernel
theorem d_R_dominates_87 : decode b_R_dominates 87 = .ok (.iload_n 2, 1) := by decide +kernel
theorem d_R_dominates_88 : decode b_R_dominates 88 = .ok (.iaload, 1) := by decide +kernel
theorem d_R_dominates_89 : decode b_R_dominates 89 = .ok (.iload 4, 2) := by decide +kernel
theorem d_R_dominates_91 : decode b_R_dominates 91 = .ok (.invokestatic 138, 3) := by decide +kernel
theorem d_R_dominates_94 : decode b_R_dominates 94 = .ok (.ifCond .eq 13, 3) := by decide +kernel
theorem d_R_dominates_97 : decode b_R_dominates 97 = .ok (.iload_n 3, 1) := by decide +kernel
theorem d_R_dominates_98 : decode b_R_dominates 98 = .ok (.aload_n 0, 1) := by decide +kernel
theorem d_R_dominates_99 : decode b_R_dominates 99 = .ok (.getfield 37, 3) := by decide +kernel
theorem d_R_dominates_102 : decode b_R_dominates 102 = .ok (.iload 4, 2) := by decide +kernel
theorem d_R_dominates_104 : decode b_R_dominates 104 = .ok (.iaload, 1) := by decide +kernel
theorem d_R_dominates_105 : decode b_R_dominates 105 = .ok (.iand, 1) := by decide +kernel
theorem d_R_dominates_106 : decode b_R_dominates 106 = .ok (.istore_n 3, 1) := by decide +kernel
theorem d_R_dominates_107 : decode b_R_dominates 107 = .ok (.iinc 4 1, 3) := by decide +kernel
theorem d_R_dominates_110 : decode b_R_dominates 110 = .ok (.goto (-36), 3) := by decide +kernel
theorem d_R_dominates_113 : decode b_R_dominates 113 = .ok (.aload_n 0, 1) := by decide +kernel
theorem d_R_dominates_114 : decode b_R_dominates 114 = .ok (.getfield 37, 3) := by decide +kernel
theorem d_R_dominates_117 : decode b_R_dominates 117 = .ok (.iload_n 2, 1) := by decide +kernel
theorem d_R_dominates_118 : decode b_R_dominates 118 = .ok (.iload_n 3, 1) := by decide +kernel
theorem d_R_dominates_119 : decode b_R_dominates 119 = .ok (.iconst 1, 1) := by decide +kernel
theorem d_R_dominates_120 : decode b_R_dominates 120 = .ok (.iload_n 2, 1) := by decide +kernel
theorem d_R_dominates_121 : decode b_R_dominates 121 = .ok (.ishl, 1) := by decide +kernel
theorem d_R_dominates_122 : decode b_R_dominates 122 = .ok (.ior, 1) := by decide +kernel
theorem d_R_dominates_123 : decode b_R_dominates 123 = .ok (.iastore, 1) := by decide +kernel
theorem d_R_dominates_124 : decode b_R_dominates 124 = .ok (.iinc 2 1, 3) := by decide +kernel
theorem d_R_dominates_127 : decode b_R_dominates 127 = .ok (.goto (-83), 3) := by decide +kernel
theorem d_R_dominates_130 : decode b_R_dominates 130 = .ok (.iinc 1 1, 3) := by decide +kernel
theorem d_R_dominates_133 : decode b_R_dominates 133 = .ok (.goto (-97), 3) := by decide +kernel
theorem d_R_dominates_136 : decode b_R_dominates 136 = .ok (.iconst 0, 1) := by decide +kernel
theorem d_R_dominates_137 : decode b_R_dominates 137 = .ok (.istore_n 1, 1) := by decide +kernel
theorem d_R_dominates_138 : decode b_R_dominates 138 = .ok (.iload_n 1, 1) := by decide +kernel
theorem d_R_dominates_139 : decode b_R_dominates 139 = .ok (.aload_n 0, 1) := by decide +kernel
theorem d_R_dominates_140 : decode b_R_dominates 140 = .ok (.getfield 105, 3) := by decide +kernel
theorem d_R_dominates_143 : decode b_R_dominates 143 = .ok (.if_icmp .ge 107, 3) := by decide +kernel
theorem d_R_dominates_146 : decode b_R_dominates 146 = .ok (.aload_n 0, 1) := by decide +kernel
theorem d_R_dominates_147 : decode b_R_dominates 147 = .ok (.getfield 43, 3) := by decide +kernel
theorem d_R_dominates_150 : decode b_R_dominates 150 = .ok (.iload_n 1, 1) := by decide +kernel
theorem d_R_dominates_151 : decode b_R_dominates 151 = .ok (.iconst (-1), 1) := by decide +kernel
theorem d_R_dominates_152 : decode b_R_dominates 152 = .ok (.iastore, 1) := by decide +kernel
theorem d_R_dominates_153 : decode b_R_dominates 153 = .ok (.iconst 0, 1) := by decide +kernel
theorem d_R_dominates_154 : decode b_R_dominates 154 = .ok (.istore_n 2, 1) := by decide +kernel
theorem d_R_dominates_155 : decode b_R_dominates 155 = .ok (.iload_n 2, 1) := by decide +kernel
theorem d_R_dominates_156 : decode b_R_dominates 156 = .ok (.aload_n 0, 1) := by decide +kernel
theorem d_R_dominates_157 : decode b_R_dominates 157 = .ok (.getfield 105, 3) := by decide +kernel
theorem d_R_dominates_160 : decode b_R_dominates 160 = .ok (.if_icmp .ge 84, 3) := by decide +kernel
theorem d_R_dominates_163 : decode b_R_dominates 163 = .ok (.iload_n 1, 1) := by decide +kernel
theorem d_R_dominates_164 : decode b_R_dominates 164 = .ok (.ifCond .le 74, 3) := by decide +kernel
theorem d_R_dominates_167 : decode b_R_dominates 167 = .ok (.aload_n 0, 1) := by decide +kernel
theorem d_R_dominates_168 : decode b_R_dominates 168 = .ok (.getfield 135, 3) := by decide +kernel
theorem d_R_dominates_171 : decode b_R_dominates 171 = .ok (.iload_n 1, 1) := by decide +kernel
theorem d_R_dominates_172 : decode b_R_dominates 172 = .ok (.invokestatic 138, 3) := by decide +kernel
theorem d_R_dominates_175 : decode b_R_dominates 175 = .ok (.ifCond .eq 63, 3) := by decide +kernel
theorem d_R_dominates_178 : decode b_R_dominates 178 = .ok (.iload_n 2, 1) := by decide +kernel
theorem d_R_dominates_179 : decode b_R_dominates 179 = .ok (.iload_n 1, 1) := by decide +kernel
theorem d_R_dominates_180 : decode b_R_dominates 180 = .ok (.if_icmp .eq 58, 3) := by decide +kernel
theorem d_R_dominates_183 : decode b_R_dominates 183 = .ok (.aload_n 0, 1) := by decide +kernel
theorem d_R_dominates_184 : decode b_R_dominates 184 = .ok (.getfield 37, 3) := by decide +kernel
theorem d_R_dominates_187 : decode b_R_dominates 187 = .ok (.iload_n 1, 1) := by decide +kernel
theorem d_R_dominates_188 : decode b_R_dominates 188 = .ok (.iaload, 1) := by decide +kernel
theorem d_R_dominates_189 : decode b_R_dominates 189 = .ok (.iload_n 2, 1) := by decide +kernel
theorem d_R_dominates_190 : decode b_R_dominates 190 = .ok (.invokestatic 138, 3) := by decide +kernel
theorem d_R_dominates_193 : decode b_R_dominates 193 = .ok (.ifCond .eq 45, 3) := by decide +kernel
theorem d_R_dominates_196 : decode b_R_dominates 196 = .ok (.aload_n 0, 1) := by decide +kernel
theorem d_R_dominates_197 : decode b_R_dominates 197 = .ok (.getfield 43, 3) := by decide +kernel
theorem d_R_dominates_200 : decode b_R_dominates 200 = .ok (.iload_n 1, 1) := by decide +kernel
theorem d_R_dominates_201 : decode b_R_dominates 201 = .ok (.iaload, 1) := by decide +kernel
theorem d_R_dominates_202 : decode b_R_dominates 202 = .ok (.ifCond .lt 29, 3) := by decide +kernel
theorem d_R_dominates_205 : decode b_R_dominates 205 = .ok (.aload_n 0, 1) := by decide +kernel
theorem d_R_dominates_206 : decode b_R_dominates 206 = .ok (.getfield 37, 3) := by decide +kernel
theorem d_R_dominates_209 : decode b_R_dominates 209 = .ok (.iload_n 2, 1) := by decide +kernel
theorem d_R_dominates_210 : decode b_R_dominates 210 = .ok (.iaload, 1) := by decide +kernel
theorem d_R_dominates_211 : decode b_R_dominates 211 = .ok (.invokestatic 146, 3) := by decide +kernel
theorem d_R_dominates_214 : decode b_R_dominates 214 = .ok (.aload_n 0, 1) := by decide +kernel
theorem d_R_dominates_215 : decode b_R_dominates 215 = .ok (.getfield 37, 3) := by decide +kernel
theorem d_R_dominates_218 : decode b_R_dominates 218 = .ok (.aload_n 0, 1) := by decide +kernel
theorem d_R_dominates_219 : decode b_R_dominates 219 = .ok (.getfield 43, 3) := by decide +kernel
theorem d_R_dominates_222 : decode b_R_dominates 222 = .ok (.iload_n 1, 1) := by decide +kernel
theorem d_R_dominates_223 : decode b_R_dominates 223 = .ok (.iaload, 1) := by decide +kernel
theorem d_R_dominates_224 : decode b_R_dominates 224 = .ok (.iaload, 1) := by decide +kernel
theorem d_R_dominates_225 : decode b_R_dominates 225 = .ok (.invokestatic 146, 3) := by decide +kernel
theorem d_R_dominates_228 : decode b_R_dominates 228 = .ok (.if_icmp .le 10, 3) := by decide +kernel
theorem d_R_dominates_231 : decode b_R_dominates 231 = .ok (.aload_n 0, 1) := by decide +kernel
theorem d_R_dominates_232 : decode b_R_dominates 232 = .ok (.getfield 43, 3) := by decide +kernel
theorem d_R_dominates_235 : decode b_R_dominates 235 = .ok (.iload_n 1, 1) := by decide +kernel
theorem d_R_dominates_236 : decode b_R_dominates 236 = .ok (.iload_n 2, 1) := by decide +kernel
theorem d_R_dominates_237 : decode b_R_dominates 237 = .ok (.iastore, 1) := by decide +kernel
theorem d_R_dominates_238 : decode b_R_dominates 238 = .ok (.iinc 2 1, 3) := by decide +kernel
theorem d_R_dominates_241 : decode b_R_dominates 241 = .ok (.goto (-86), 3) := by decide +kernel
theorem d_R_dominates_244 : decode b_R_dominates 244 = .ok (.iinc 1 1, 3) := by decide +kernel
theorem d_R_dominates_247 : decode b_R_dominates 247 = .ok (.goto (-109), 3) := by decide +kernel
theorem d_R_dominates_250 : decode b_R_dominates 250 = .ok (.return_, 1) := by decide +kernel
theorem d_R_isInFrontier_0 : decode b_R_isInFrontier 0 = .ok (.aload_n 0, 1) := by decide +kernel
theorem d_R_isInFrontier_1 : decode b_R_isInFrontier 1 = .ok (.getfield 37, 3) := by decide +kernel
theorem d_R_isInFrontier_4 : decode b_R_isInFrontier 4 = .ok (.iload_n 2, 1) := by decide +kernel
theorem d_R_isInFrontier_5 : decode b_R_isInFrontier 5 = .ok (.iaload, 1) := by decide +kernel
theorem d_R_isInFrontier_6 : decode b_R_isInFrontier 6 = .ok (.iload_n 1, 1) := by decide +kernel
theorem d_R_isInFrontier_7 : decode b_R_isInFrontier 7 = .ok (.invokestatic 138, 3) := by decide +kernel
theorem d_R_isInFrontier_10 : decode b_R_isInFrontier 10 = .ok (.ifCond .eq 10, 3) := by decide +kernel
theorem d_R_isInFrontier_13 : decode b_R_isInFrontier 13 = .ok (.iload_n 1, 1) := by decide +kernel
theorem d_R_isInFrontier_14 : decode b_R_isInFrontier 14 = .ok (.iload_n 2, 1) := by decide +kernel
theorem d_R_isInFrontier_15 : decode b_R_isInFrontier 15 = .ok (.if_icmp .eq 5, 3) := by decide +kernel
theorem d_R_isInFrontier_18 : decode b_R_isInFrontier 18 = .ok (.iconst 0, 1) := by decide +kernel
theorem d_R_isInFrontier_19 : decode b_R_isInFrontier 19 = .ok (.ireturn, 1) := by decide +kernel
theorem d_R_isInFrontier_20 : decode b_R_isInFrontier 20 = .ok (.iconst 0, 1) := by decide +kernel
theorem d_R_isInFrontier_21 : decode b_R_isInFrontier 21 = .ok (.istore_n 3, 1) := by decide +kernel
theorem d_R_isInFrontier_22 : decode b_R_isInFrontier 22 = .ok (.iconst 0, 1) := by decide +kernel
theorem d_R_isInFrontier_23 : decode b_R_isInFrontier 23 = .ok (.istore 4, 2) := by decide +kernel
theorem d_R_isInFrontier_25 : decode b_R_isInFrontier 25 = .ok (.iload 4, 2) := by decide +kernel
theorem d_R_isInFrontier_27 : decode b_R_isInFrontier 27 = .ok (.aload_n 0, 1) := by decide +kernel
theorem d_R_isInFrontier_28 : decode b_R_isInFrontier 28 = .ok (.getfield 105, 3) := by decide +kernel
theorem d_R_isInFrontier_31 : decode b_R_isInFrontier 31 = .ok (.if_icmp .ge 47, 3) := by decide +kernel
theorem d_R_isInFrontier_34 : decode b_R_isInFrontier 34 = .ok (.iload_n 3, 1) := by decide +kernel
theorem d_R_isInFrontier_35 : decode b_R_isInFrontier 35 = .ok (.ifCond .ne 31, 3) := by decide +kernel
theorem d_R_isInFrontier_38 : decode b_R_isInFrontier 38 = .ok (.aload_n 0, 1) := by decide +kernel
theorem d_R_isInFrontier_39 : decode b_R_isInFrontier 39 = .ok (.getfield 40, 3) := by decide +kernel
theorem d_R_isInFrontier_42 : decode b_R_isInFrontier 42 = .ok (.iload_n 2, 1) := by decide +kernel
theorem d_R_isInFrontier_43 : decode b_R_isInFrontier 43 = .ok (.iaload, 1) := by decide +kernel
theorem d_R_isInFrontier_44 : decode b_R_isInFrontier 44 = .ok (.iload 4, 2) := by decide +kernel
theorem d_R_isInFrontier_46 : decode b_R_isInFrontier 46 = .ok (.invokestatic 138, 3) := by decide +kernel
theorem d_R_isInFrontier_49 : decode b_R_isInFrontier 49 = .ok (.ifCond .eq 21, 3) := by decide +kernel
theorem d_R_isInFrontier_52 : decode b_R_isInFrontier 52 = .ok (.aload_n 0, 1) := by decide +kernel
theorem d_R_isInFrontier_53 : decode b_R_isInFrontier 53 = .ok (.getfield 37, 3) := by decide +kernel
theorem d_R_isInFrontier_56 : decode b_R_isInFrontier 56 = .ok (.iload 4, 2) := by decide +kernel
theorem d_R_isInFrontier_58 : decode b_R_isInFrontier 58 = .ok (.iaload, 1) := by decide +kernel
theorem d_R_isInFrontier_59 : decode b_R_isInFrontier 59 = .ok (.iload_n 1, 1) := by decide +kernel
theorem d_R_isInFrontier_60 : decode b_R_isInFrontier 60 = .ok (.invokestatic 138, 3) := by decide +kernel
theorem d_R_isInFrontier_63 : decode b_R_isInFrontier 63 = .ok (.ifCond .eq 7, 3) := by decide +kernel
theorem d_R_isInFrontier_66 : decode b_R_isInFrontier 66 = .ok (.iconst 1, 1) := by decide +kernel
theorem d_R_isInFrontier_67 : decode b_R_isInFrontier 67 = .ok (.goto 4, 3) := by decide +kernel
theorem d_R_isInFrontier_70 : decode b_R_isInFrontier 70 = .ok (.iconst 0, 1) := by decide +kernel
theorem d_R_isInFrontier_71 : decode b_R_isInFrontier 71 = .ok (.istore_n 3, 1) := by decide +kernel
theorem d_R_isInFrontier_72 : decode b_R_isInFrontier 72 = .ok (.iinc 4 1, 3) := by decide +kernel
theorem d_R_isInFrontier_75 : decode b_R_isInFrontier 75 = .ok (.goto (-50), 3) := by decide +kernel
theorem d_R_isInFrontier_78 : decode b_R_isInFrontier 78 = .ok (.iload_n 3, 1) := by decide +kernel
theorem d_R_isInFrontier_79 : decode b_R_isInFrontier 79 = .ok (.ireturn, 1) := by decide +kernel
theorem d_R_defined_0 : decode b_R_defined 0 = .ok (.aload_n 0, 1) := by decide +kernel
theorem d_R_defined_1 : decode b_R_defined 1 = .ok (.getfield 46, 3) := by decide +kernel
theorem d_R_defined_4 : decode b_R_defined 4 = .ok (.iload_n 1, 1) := by decide +kernel
theorem d_R_defined_5 : decode b_R_defined 5 = .ok (.iaload, 1) := by decide +kernel
theorem d_R_defined_6 : decode b_R_defined 6 = .ok (.istore_n 2, 1) := by decide +kernel
theorem d_R_defined_7 : decode b_R_defined 7 = .ok (.bipush 6, 2) := by decide +kernel
theorem d_R_defined_9 : decode b_R_defined 9 = .ok (.iload_n 1, 1) := by decide +kernel
theorem d_R_defined_10 : decode b_R_defined 10 = .ok (.imul, 1) := by decide +kernel
theorem d_R_defined_11 : decode b_R_defined 11 = .ok (.istore_n 3, 1) := by decide +kernel
theorem d_R_defined_12 : decode b_R_defined 12 = .ok (.iload_n 3, 1) := by decide +kernel
theorem d_R_defined_13 : decode b_R_defined 13 = .ok (.bipush 6, 2) := by decide +kernel
theorem d_R_defined_15 : decode b_R_defined 15 = .ok (.iload_n 1, 1) := by decide +kernel
theorem d_R_defined_16 : decode b_R_defined 16 = .ok (.imul, 1) := by decide +kernel
theorem d_R_defined_17 : decode b_R_defined 17 = .ok (.aload_n 0, 1) := by decide +kernel
theorem d_R_defined_18 : decode b_R_defined 18 = .ok (.getfield 7, 3) := by decide +kernel
theorem d_R_defined_21 : decode b_R_defined 21 = .ok (.iload_n 1, 1) := by decide +kernel
theorem d_R_defined_22 : decode b_R_defined 22 = .ok (.iaload, 1) := by decide +kernel
theorem d_R_defined_23 : decode b_R_defined 23 = .ok (.iadd, 1) := by decide +kernel
theorem d_R_defined_24 : decode b_R_defined 24 = .ok (.if_icmp .ge 32, 3) := by decide +kernel
theorem d_R_defined_27 : decode b_R_defined 27 = .ok (.aload_n 0, 1) := by decide +kernel
theorem d_R_defined_28 : decode b_R_defined 28 = .ok (.getfield 13, 3) := by decide +kernel
theorem d_R_defined_31 : decode b_R_defined 31 = .ok (.iload_n 3, 1) := by decide +kernel
theorem d_R_defined_32 : decode b_R_defined 32 = .ok (.iaload, 1) := by decide +kernel
theorem d_R_defined_33 : decode b_R_defined 33 = .ok (.invokestatic 120, 3) := by decide +kernel
theorem d_R_defined_36 : decode b_R_defined 36 = .ok (.ifCond .eq 14, 3) := by decide +kernel
theorem d_R_defined_39 : decode b_R_defined 39 = .ok (.iload_n 2, 1) := by decide +kernel
theorem d_R_defined_40 : decode b_R_defined 40 = .ok (.iconst 1, 1) := by decide +kernel
theorem d_R_defined_41 : decode b_R_defined 41 = .ok (.aload_n 0, 1) := by decide +kernel
theorem d_R_defined_42 : decode b_R_defined 42 = .ok (.getfield 16, 3) := by decide +kernel
theorem d_R_defined_45 : decode b_R_defined 45 = .ok (.iload_n 3, 1) := by decide +kernel
theorem d_R_defined_46 : decode b_R_defined 46 = .ok (.iaload, 1) := by decide +kernel
theorem d_R_defined_47 : decode b_R_defined 47 = .ok (.ishl, 1) := by decide +kernel
theorem d_R_defined_48 : decode b_R_defined 48 = .ok (.ior, 1) := by decide +kernel
theorem d_R_defined_49 : decode b_R_defined 49 = .ok (.istore_n 2, 1) := by decide +kernel
theorem d_R_defined_50 : decode b_R_defined 50 = .ok (.iinc 3 1, 3) := by decide +kernel
theorem d_R_defined_53 : decode b_R_defined 53 = .ok (.goto (-41), 3) := by decide +kernel
theorem d_R_defined_56 : decode b_R_defined 56 = .ok (.iload_n 2, 1) := by decide +kernel
theorem d_R_defined_57 : decode b_R_defined 57 = .ok (.ireturn, 1) := by decide +kernel
theorem d_R_placePhis_0 : decode b_R_placePhis 0 = .ok (.iconst 0, 1) := by decide +kernel
theorem d_R_placePhis_1 : decode b_R_placePhis 1 = .ok (.istore_n 1, 1) := by decide +kernel
theorem d_R_placePhis_2 : decode b_R_placePhis 2 = .ok (.iload_n 1, 1) := by decide +kernel
theorem d_R_placePhis_3 : decode b_R_placePhis 3 = .ok (.bipush 10, 2) := by decide +kernel
theorem d_R_placePhis_5 : decode b_R_placePhis 5 = .ok (.if_icmp .ge 16, 3) := by decide +kernel
theorem d_R_placePhis_8 : decode b_R_placePhis 8 = .ok (.aload_n 0, 1) := by decide +kernel
theorem d_R_placePhis_9 : decode b_R_placePhis 9 = .ok (.getfield 46, 3) := by decide +kernel
theorem d_R_placePhis_12 : decode b_R_placePhis 12 = .ok (.iload_n 1, 1) := by decide +kernel
theorem d_R_placePhis_13 : decode b_R_placePhis 13 = .ok (.iconst 0, 1) := by decide +kernel
theorem d_R_placePhis_14 : decode b_R_placePhis 14 = .ok (.iastore, 1) := by decide +kernel
theorem d_R_placePhis_15 : decode b_R_placePhis 15 = .ok (.iinc 1 1, 3) := by decide +kernel
theorem d_R_placePhis_18 : decode b_R_placePhis 18 = .ok (.goto (-16), 3) := by decide +kernel
theorem d_R_placePhis_21 : decode b_R_placePhis 21 = .ok (.iconst 1, 1) := by decide +kernel
theorem d_R_placePhis_22 : decode b_R_placePhis 22 = .ok (.istore_n 1, 1) := by decide +kernel
theorem d_R_placePhis_23 : decode b_R_placePhis 23 = .ok (.iload_n 1, 1) := by decide +kernel
theorem d_R_placePhis_24 : decode b_R_placePhis 24 = .ok (.ifCond .eq 117, 3) := by decide +kernel
theorem d_R_placePhis_27 : decode b_R_placePhis 27 = .ok (.iconst 0, 1) := by decide +kernel
theorem d_R_placePhis_28 : decode b_R_placePhis 28 = .ok (.istore_n 1, 1) := by decide +kernel
theorem d_R_placePhis_29 : decode b_R_placePhis 29 = .ok (.iconst 0, 1) := by decide +kernel
theorem d_R_placePhis_30 : decode b_R_placePhis 30 = .ok (.istore_n 2, 1) := by decide +kernel
theorem d_R_placePhis_31 : decode b_R_placePhis 31 = .ok (.iload_n 2, 1) := by decide +kernel
theorem d_R_placePhis_32 : decode b_R_placePhis 32 = .ok (.aload_n 0, 1) := by decide +kernel
theorem d_R_placePhis_33 : decode b_R_placePhis 33 = .ok (.getfield 105, 3) := by decide +kernel
theorem d_R_placePhis_36 : decode b_R_placePhis 36 = .ok (.if_icmp .ge 102, 3) := by decide +kernel
theorem d_R_placePhis_39 : decode b_R_placePhis 39 = .ok (.iconst 0, 1) := by decide +kernel
theorem d_R_placePhis_40 : decode b_R_placePhis 40 = .ok (.istore_n 3, 1) := by decide +kernel
theorem d_R_placePhis_41 : decode b_R_placePhis 41 = .ok (.iload_n 3, 1) := by decide +kernel
theorem d_R_placePhis_42 : decode b_R_placePhis 42 = .ok (.aload_n 0, 1) := by decide +kernel
theorem d_R_placePhis_43 : decode b_R_placePhis 43 = .ok (.getfield 105, 3) := by decide +kernel
theorem d_R_placePhis_46 : decode b_R_placePhis 46 = .ok (.if_icmp .ge 86, 3) := by decide +kernel
theorem d_R_placePhis_49 : decode b_R_placePhis 49 = .ok (.aload_n 0, 1) := by decide +kernel
theorem d_R_placePhis_50 : decode b_R_placePhis 50 = .ok (.getfield 135, 3) := by decide +kernel
theorem d_R_placePhis_53 : decode b_R_placePhis 53 = .ok (.iload_n 2, 1) := by decide +kernel
theorem d_R_placePhis_54 : decode b_R_placePhis 54 = .ok (.invokestatic 138, 3) := by decide +kernel
theorem d_R_placePhis_57 : decode b_R_placePhis 57 = .ok (.ifCond .eq 69, 3) := by decide +kernel
theorem d_R_placePhis_60 : decode b_R_placePhis 60 = .ok (.aload_n 0, 1) := by decide +kernel
theorem d_R_placePhis_61 : decode b_R_placePhis 61 = .ok (.getfield 135, 3) := by decide +kernel
theorem d_R_placePhis_64 : decode b_R_placePhis 64 = .ok (.iload_n 3, 1) := by decide +kernel
theorem d_R_placePhis_65 : decode b_R_placePhis 65 = .ok (.invokestatic 138, 3) := by decide +kernel
theorem d_R_placePhis_68 : decode b_R_placePhis 68 = .ok (.ifCond .eq 58, 3) := by decide +kernel
theorem d_R_placePhis_71 : decode b_R_placePhis 71 = .ok (.aload_n 0, 1) := by decide +kernel
theorem d_R_placePhis_72 : decode b_R_placePhis 72 = .ok (.iload_n 2, 1) := by decide +kernel
theorem d_R_placePhis_73 : decode b_R_placePhis 73 = .ok (.iload_n 3, 1) := by decide +kernel
theorem d_R_placePhis_74 : decode b_R_placePhis 74 = .ok (.invokevirtual 149, 3) := by decide +kernel
theorem d_R_placePhis_77 : decode b_R_placePhis 77 = .ok (.ifCond .ne 6, 3) := by decide +kernel
theorem d_R_placePhis_80 : decode b_R_placePhis 80 = .ok (.goto 46, 3) := by decide +kernel
theorem d_R_placePhis_83 : decode b_R_placePhis 83 = .ok (.aload_n 0, 1) := by decide +kernel
theorem d_R_placePhis_84 : decode b_R_placePhis 84 = .ok (.getfield 46, 3) := by decide +kernel
theorem d_R_placePhis_87 : decode b_R_placePhis 87 = .ok (.iload_n 3, 1) := by decide +kernel
theorem d_R_placePhis_88 : decode b_R_placePhis 88 = .ok (.iaload, 1) := by decide +kernel
theorem d_R_placePhis_89 : decode b_R_placePhis 89 = .ok (.aload_n 0, 1) := by decide +kernel
theorem d_R_placePhis_90 : decode b_R_placePhis 90 = .ok (.iload_n 2, 1) := by decide +kernel
theorem d_R_placePhis_91 : decode b_R_placePhis 91 = .ok (.invokevirtual 152, 3) := by decide +kernel
theorem d_R_placePhis_94 : decode b_R_placePhis 94 = .ok (.ior, 1) := by decide +kernel
theorem d_R_placePhis_95 : decode b_R_placePhis 95 = .ok (.istore 4, 2) := by decide +kernel
theorem d_R_placePhis_97 : decode b_R_placePhis 97 = .ok (.iload_n 1, 1) := by decide +kernel
theorem d_R_placePhis_98 : decode b_R_placePhis 98 = .ok (.ifCond .ne 14, 3) := by decide +kernel
theorem d_R_placePhis_101 : decode b_R_placePhis 101 = .ok (.iload 4, 2) := by decide +kernel
theorem d_R_placePhis_103 : decode b_R_placePhis 103 = .ok (.aload_n 0, 1) := by decide +kernel
theorem d_R_placePhis_104 : decode b_R_placePhis 104 = .ok (.getfield 46, 3) := by decide +kernel
theorem d_R_placePhis_107 : decode b_R_placePhis 107 = .ok (.iload_n 3, 1) := by decide +kernel
theorem d_R_placePhis_108 : decode b_R_placePhis 108 = .ok (.iaload, 1) := by decide +kernel
theorem d_R_placePhis_109 : decode b_R_placePhis 109 = .ok (.if_icmp .eq 7, 3) := by decide +kernel
theorem d_R_placePhis_112 : decode b_R_placePhis 112 = .ok (.iconst 1, 1) := by decide +kernel
theorem d_R_placePhis_113 : decode b_R_placePhis 113 = .ok (.goto 4, 3) := by decide +kernel
theorem d_R_placePhis_116 : decode b_R_placePhis 116 = .ok (.iconst 0, 1) := by decide +kernel
theorem d_R_placePhis_117 : decode b_R_placePhis 117 = .ok (.istore_n 1, 1) := by decide +kernel
theorem d_R_placePhis_118 : decode b_R_placePhis 118 = .ok (.aload_n 0, 1) := by decide +kernel
theorem d_R_placePhis_119 : decode b_R_placePhis 119 = .ok (.getfield 46, 3) := by decide +kernel
theorem d_R_placePhis_122 : decode b_R_placePhis 122 = .ok (.iload_n 3, 1) := by decide +kernel
theorem d_R_placePhis_123 : decode b_R_placePhis 123 = .ok (.iload 4, 2) := by decide +kernel
theorem d_R_placePhis_125 : decode b_R_placePhis 125 = .ok (.iastore, 1) := by decide +kernel
theorem d_R_placePhis_126 : decode b_R_placePhis 126 = .ok (.iinc 3 1, 3) := by decide +kernel
theorem d_R_placePhis_129 : decode b_R_placePhis 129 = .ok (.goto (-88), 3) := by decide +kernel
theorem d_R_placePhis_132 : decode b_R_placePhis 132 = .ok (.iinc 2 1, 3) := by decide +kernel
theorem d_R_placePhis_135 : decode b_R_placePhis 135 = .ok (.goto (-104), 3) := by decide +kernel
theorem d_R_placePhis_138 : decode b_R_placePhis 138 = .ok (.goto (-115), 3) := by decide +kernel
theorem d_R_placePhis_141 : decode b_R_placePhis 141 = .ok (.return_, 1) := by decide +kernel
theorem d_R_named_0 : decode b_R_named 0 = .ok (.aload_n 0, 1) := by decide +kernel
theorem d_R_named_1 : decode b_R_named 1 = .ok (.getfield 49, 3) := by decide +kernel
theorem d_R_named_4 : decode b_R_named 4 = .ok (.aload_n 0, 1) := by decide +kernel
theorem d_R_named_5 : decode b_R_named 5 = .ok (.getfield 155, 3) := by decide +kernel
theorem d_R_named_8 : decode b_R_named 8 = .ok (.iload_n 1, 1) := by decide +kernel
theorem d_R_named_9 : decode b_R_named 9 = .ok (.iastore, 1) := by decide +kernel
theorem d_R_named_10 : decode b_R_named 10 = .ok (.aload_n 0, 1) := by decide +kernel
theorem d_R_named_11 : decode b_R_named 11 = .ok (.getfield 52, 3) := by decide +kernel
theorem d_R_named_14 : decode b_R_named 14 = .ok (.aload_n 0, 1) := by decide +kernel
theorem d_R_named_15 : decode b_R_named 15 = .ok (.getfield 155, 3) := by decide +kernel
theorem d_R_named_18 : decode b_R_named 18 = .ok (.iload_n 2, 1) := by decide +kernel
theorem d_R_named_19 : decode b_R_named 19 = .ok (.iastore, 1) := by decide +kernel
theorem d_R_named_20 : decode b_R_named 20 = .ok (.aload_n 0, 1) := by decide +kernel
theorem d_R_named_21 : decode b_R_named 21 = .ok (.dup, 1) := by decide +kernel
theorem d_R_named_22 : decode b_R_named 22 = .ok (.getfield 155, 3) := by decide +kernel
theorem d_R_named_25 : decode b_R_named 25 = .ok (.iconst 1, 1) := by decide +kernel
theorem d_R_named_26 : decode b_R_named 26 = .ok (.iadd, 1) := by decide +kernel
theorem d_R_named_27 : decode b_R_named 27 = .ok (.putfield 155, 3) := by decide +kernel
theorem d_R_named_30 : decode b_R_named 30 = .ok (.aload_n 0, 1) := by decide +kernel
theorem d_R_named_31 : decode b_R_named 31 = .ok (.getfield 155, 3) := by decide +kernel
theorem d_R_named_34 : decode b_R_named 34 = .ok (.iconst 1, 1) := by decide +kernel
theorem d_R_named_35 : decode b_R_named 35 = .ok (.isub, 1) := by decide +kernel
theorem d_R_named_36 : decode b_R_named 36 = .ok (.ireturn, 1) := by decide +kernel
theorem d_R_nameBlock_0 : decode b_R_nameBlock 0 = .ok (.bipush 6, 2) := by decide +kernel
theorem d_R_nameBlock_2 : decode b_R_nameBlock 2 = .ok (.iload_n 1, 1) := by decide +kernel
theorem d_R_nameBlock_3 : decode b_R_nameBlock 3 = .ok (.imul, 1) := by decide +kernel
theorem d_R_nameBlock_4 : decode b_R_nameBlock 4 = .ok (.istore_n 2, 1) := by decide +kernel
theorem d_R_nameBlock_5 : decode b_R_nameBlock 5 = .ok (.iconst 0, 1) := by decide +kernel
theorem d_R_nameBlock_6 : decode b_R_nameBlock 6 = .ok (.istore_n 3, 1) := by decide +kernel
theorem d_R_nameBlock_7 : decode b_R_nameBlock 7 = .ok (.iload_n 3, 1) := by decide +kernel
theorem d_R_nameBlock_8 : decode b_R_nameBlock 8 = .ok (.bipush 6, 2) := by decide +kernel
theorem d_R_nameBlock_10 : decode b_R_nameBlock 10 = .ok (.if_icmp .ge 88, 3) := by decide +kernel
theorem d_R_nameBlock_13 : decode b_R_nameBlock 13 = .ok (.aload_n 0, 1) := by decide +kernel
theorem d_R_nameBlock_14 : decode b_R_nameBlock 14 = .ok (.getfield 70, 3) := by decide +kernel
theorem d_R_nameBlock_17 : decode b_R_nameBlock 17 = .ok (.iload_n 2, 1) := by decide +kernel
theorem d_R_nameBlock_18 : decode b_R_nameBlock 18 = .ok (.iload_n 3, 1) := by decide +kernel
theorem d_R_nameBlock_19 : decode b_R_nameBlock 19 = .ok (.iadd, 1) := by decide +kernel
theorem d_R_nameBlock_20 : decode b_R_nameBlock 20 = .ok (.iload_n 1, 1) := by decide +kernel
theorem d_R_nameBlock_21 : decode b_R_nameBlock 21 = .ok (.ifCond .ne 7, 3) := by decide +kernel
theorem d_R_nameBlock_24 : decode b_R_nameBlock 24 = .ok (.iload_n 3, 1) := by decide +kernel
theorem d_R_nameBlock_25 : decode b_R_nameBlock 25 = .ok (.goto 19, 3) := by decide +kernel
theorem d_R_nameBlock_28 : decode b_R_nameBlock 28 = .ok (.aload_n 0, 1) := by decide +kernel
theorem d_R_nameBlock_29 : decode b_R_nameBlock 29 = .ok (.getfield 70, 3) := by decide +kernel
theorem d_R_nameBlock_32 : decode b_R_nameBlock 32 = .ok (.bipush 6, 2) := by decide +kernel
theorem d_R_nameBlock_34 : decode b_R_nameBlock 34 = .ok (.aload_n 0, 1) := by decide +kernel
theorem d_R_nameBlock_35 : decode b_R_nameBlock 35 = .ok (.getfield 43, 3) := by decide +kernel
theorem d_R_nameBlock_38 : decode b_R_nameBlock 38 = .ok (.iload_n 1, 1) := by decide +kernel
theorem d_R_nameBlock_39 : decode b_R_nameBlock 39 = .ok (.iaload, 1) := by decide +kernel
theorem d_R_nameBlock_40 : decode b_R_nameBlock 40 = .ok (.imul, 1) := by decide +kernel
theorem d_R_nameBlock_41 : decode b_R_nameBlock 41 = .ok (.iload_n 3, 1) := by decide +kernel
theorem d_R_nameBlock_42 : decode b_R_nameBlock 42 = .ok (.iadd, 1) := by decide +kernel
theorem d_R_nameBlock_43 : decode b_R_nameBlock 43 = .ok (.iaload, 1) := by decide +kernel
theorem d_R_nameBlock_44 : decode b_R_nameBlock 44 = .ok (.iastore, 1) := by decide +kernel
theorem d_R_nameBlock_45 : decode b_R_nameBlock 45 = .ok (.aload_n 0, 1) := by decide +kernel
theorem d_R_nameBlock_46 : decode b_R_nameBlock 46 = .ok (.getfield 46, 3) := by decide +kernel
theorem d_R_nameBlock_49 : decode b_R_nameBlock 49 = .ok (.iload_n 1, 1) := by decide +kernel
theorem d_R_nameBlock_50 : decode b_R_nameBlock 50 = .ok (.iaload, 1) := by decide +kernel
theorem d_R_nameBlock_51 : decode b_R_nameBlock 51 = .ok (.iload_n 3, 1) := by decide +kernel
theorem d_R_nameBlock_52 : decode b_R_nameBlock 52 = .ok (.invokestatic 138, 3) := by decide +kernel
theorem d_R_nameBlock_55 : decode b_R_nameBlock 55 = .ok (.ifCond .eq 37, 3) := by decide +kernel
theorem d_R_nameBlock_58 : decode b_R_nameBlock 58 = .ok (.aload_n 0, 1) := by decide +kernel
theorem d_R_nameBlock_59 : decode b_R_nameBlock 59 = .ok (.getfield 55, 3) := by decide +kernel
theorem d_R_nameBlock_62 : decode b_R_nameBlock 62 = .ok (.iload_n 2, 1) := by decide +kernel
theorem d_R_nameBlock_63 : decode b_R_nameBlock 63 = .ok (.iload_n 3, 1) := by decide +kernel
theorem d_R_nameBlock_64 : decode b_R_nameBlock 64 = .ok (.iadd, 1) := by decide +kernel
theorem d_R_nameBlock_65 : decode b_R_nameBlock 65 = .ok (.aload_n 0, 1) := by decide +kernel
theorem d_R_nameBlock_66 : decode b_R_nameBlock 66 = .ok (.iload_n 1, 1) := by decide +kernel
theorem d_R_nameBlock_67 : decode b_R_nameBlock 67 = .ok (.iconst (-1), 1) := by decide +kernel
theorem d_R_nameBlock_68 : decode b_R_nameBlock 68 = .ok (.iload_n 2, 1) := by decide +kernel
theorem d_R_nameBlock_69 : decode b_R_nameBlock 69 = .ok (.iload_n 3, 1) := by decide +kernel
theorem d_R_nameBlock_70 : decode b_R_nameBlock 70 = .ok (.iadd, 1) := by decide +kernel
theorem d_R_nameBlock_71 : decode b_R_nameBlock 71 = .ok (.isub, 1) := by decide +kernel
theorem d_R_nameBlock_72 : decode b_R_nameBlock 72 = .ok (.invokevirtual 158, 3) := by decide +kernel
theorem d_R_nameBlock_75 : decode b_R_nameBlock 75 = .ok (.iastore, 1) := by decide +kernel
theorem d_R_nameBlock_76 : decode b_R_nameBlock 76 = .ok (.aload_n 0, 1) := by decide +kernel
theorem d_R_nameBlock_77 : decode b_R_nameBlock 77 = .ok (.getfield 70, 3) := by decide +kernel
theorem d_R_nameBlock_80 : decode b_R_nameBlock 80 = .ok (.iload_n 2, 1) := by decide +kernel
theorem d_R_nameBlock_81 : decode b_R_nameBlock 81 = .ok (.iload_n 3, 1) := by decide +kernel
theorem d_R_nameBlock_82 : decode b_R_nameBlock 82 = .ok (.iadd, 1) := by decide +kernel
theorem d_R_nameBlock_83 : decode b_R_nameBlock 83 = .ok (.aload_n 0, 1) := by decide +kernel
theorem d_R_nameBlock_84 : decode b_R_nameBlock 84 = .ok (.getfield 55, 3) := by decide +kernel
theorem d_R_nameBlock_87 : decode b_R_nameBlock 87 = .ok (.iload_n 2, 1) := by decide +kernel
theorem d_R_nameBlock_88 : decode b_R_nameBlock 88 = .ok (.iload_n 3, 1) := by decide +kernel
theorem d_R_nameBlock_89 : decode b_R_nameBlock 89 = .ok (.iadd, 1) := by decide +kernel
theorem d_R_nameBlock_90 : decode b_R_nameBlock 90 = .ok (.iaload, 1) := by decide +kernel
theorem d_R_nameBlock_91 : decode b_R_nameBlock 91 = .ok (.iastore, 1) := by decide +kernel
theorem d_R_nameBlock_92 : decode b_R_nameBlock 92 = .ok (.iinc 3 1, 3) := by decide +kernel
theorem d_R_nameBlock_95 : decode b_R_nameBlock 95 = .ok (.goto (-88), 3) := by decide +kernel
theorem d_R_nameBlock_98 : decode b_R_nameBlock 98 = .ok (.iload_n 2, 1) := by decide +kernel
theorem d_R_nameBlock_99 : decode b_R_nameBlock 99 = .ok (.istore_n 3, 1) := by decide +kernel
theorem d_R_nameBlock_100 : decode b_R_nameBlock 100 = .ok (.iload_n 3, 1) := by decide +kernel
theorem d_R_nameBlock_101 : decode b_R_nameBlock 101 = .ok (.iload_n 2, 1) := by decide +kernel
theorem d_R_nameBlock_102 : decode b_R_nameBlock 102 = .ok (.aload_n 0, 1) := by decide +kernel
theorem d_R_nameBlock_103 : decode b_R_nameBlock 103 = .ok (.getfield 7, 3) := by decide +kernel
theorem d_R_nameBlock_106 : decode b_R_nameBlock 106 = .ok (.iload_n 1, 1) := by decide +kernel
theorem d_R_nameBlock_107 : decode b_R_nameBlock 107 = .ok (.iaload, 1) := by decide +kernel
theorem d_R_nameBlock_108 : decode b_R_nameBlock 108 = .ok (.iadd, 1) := by decide +kernel
theorem d_R_nameBlock_109 : decode b_R_nameBlock 109 = .ok (.if_icmp .ge 130, 3) := by decide +kernel
theorem d_R_nameBlock_112 : decode b_R_nameBlock 112 = .ok (.aload_n 0, 1) := by decide +kernel
theorem d_R_nameBlock_113 : decode b_R_nameBlock 113 = .ok (.getfield 13, 3) := by decide +kernel
theorem d_R_nameBlock_116 : decode b_R_nameBlock 116 = .ok (.iload_n 3, 1) := by decide +kernel
theorem d_R_nameBlock_117 : decode b_R_nameBlock 117 = .ok (.iaload, 1) := by decide +kernel
theorem d_R_nameBlock_118 : decode b_R_nameBlock 118 = .ok (.istore 4, 2) := by decide +kernel
theorem d_R_nameBlock_120 : decode b_R_nameBlock 120 = .ok (.aload_n 0, 1) := by decide +kernel
theorem d_R_nameBlock_121 : decode b_R_nameBlock 121 = .ok (.getfield 61, 3) := by decide +kernel
theorem d_R_nameBlock_124 : decode b_R_nameBlock 124 = .ok (.iload_n 3, 1) := by decide +kernel
theorem d_R_nameBlock_125 : decode b_R_nameBlock 125 = .ok (.iload 4, 2) := by decide +kernel
theorem d_R_nameBlock_127 : decode b_R_nameBlock 127 = .ok (.invokestatic 126, 3) := by decide +kernel
theorem d_R_nameBlock_130 : decode b_R_nameBlock 130 = .ok (.ifCond .eq 19, 3) := by decide +kernel
theorem d_R_nameBlock_133 : decode b_R_nameBlock 133 = .ok (.aload_n 0, 1) := by decide +kernel
theorem d_R_nameBlock_134 : decode b_R_nameBlock 134 = .ok (.getfield 70, 3) := by decide +kernel
theorem d_R_nameBlock_137 : decode b_R_nameBlock 137 = .ok (.iload_n 2, 1) := by decide +kernel
theorem d_R_nameBlock_138 : decode b_R_nameBlock 138 = .ok (.aload_n 0, 1) := by decide +kernel
theorem d_R_nameBlock_139 : decode b_R_nameBlock 139 = .ok (.getfield 19, 3) := by decide +kernel
theorem d_R_nameBlock_142 : decode b_R_nameBlock 142 = .ok (.iload_n 3, 1) := by decide +kernel
theorem d_R_nameBlock_143 : decode b_R_nameBlock 143 = .ok (.iaload, 1) := by decide +kernel
theorem d_R_nameBlock_144 : decode b_R_nameBlock 144 = .ok (.iadd, 1) := by decide +kernel
theorem d_R_nameBlock_145 : decode b_R_nameBlock 145 = .ok (.iaload, 1) := by decide +kernel
theorem d_R_nameBlock_146 : decode b_R_nameBlock 146 = .ok (.goto 4, 3) := by decide +kernel
theorem d_R_nameBlock_149 : decode b_R_nameBlock 149 = .ok (.iconst (-1), 1) := by decide +kernel
theorem d_R_nameBlock_150 : decode b_R_nameBlock 150 = .ok (.iastore, 1) := by decide +kernel
theorem d_R_nameBlock_151 : decode b_R_nameBlock 151 = .ok (.aload_n 0, 1) := by decide +kernel
