theorem d_N_init_0 : decode b_N_init 0 = .ok (.aload_n 0, 1) := by decide +kernel
theorem d_N_init_1 : decode b_N_init 1 = .ok (.invokespecial 3, 3) := by decide +kernel
theorem d_N_init_4 : decode b_N_init 4 = .ok (.aload_n 0, 1) := by decide +kernel
theorem d_N_init_5 : decode b_N_init 5 = .ok (.new 9, 3) := by decide +kernel
theorem d_N_init_8 : decode b_N_init 8 = .ok (.dup, 1) := by decide +kernel
theorem d_N_init_9 : decode b_N_init 9 = .ok (.invokespecial 11, 3) := by decide +kernel
theorem d_N_init_12 : decode b_N_init 12 = .ok (.putfield 12, 3) := by decide +kernel
theorem d_N_init_15 : decode b_N_init 15 = .ok (.aload_n 0, 1) := by decide +kernel
theorem d_N_init_16 : decode b_N_init 16 = .ok (.new 16, 3) := by decide +kernel
theorem d_N_init_19 : decode b_N_init 19 = .ok (.dup, 1) := by decide +kernel
theorem d_N_init_20 : decode b_N_init 20 = .ok (.aload_n 0, 1) := by decide +kernel
theorem d_N_init_21 : decode b_N_init 21 = .ok (.getfield 12, 3) := by decide +kernel
theorem d_N_init_24 : decode b_N_init 24 = .ok (.invokespecial 18, 3) := by decide +kernel
theorem d_N_init_27 : decode b_N_init 27 = .ok (.putfield 21, 3) := by decide +kernel
theorem d_N_init_30 : decode b_N_init 30 = .ok (.aload_n 0, 1) := by decide +kernel
theorem d_N_init_31 : decode b_N_init 31 = .ok (.new 25, 3) := by decide +kernel
theorem d_N_init_34 : decode b_N_init 34 = .ok (.dup, 1) := by decide +kernel
theorem d_N_init_35 : decode b_N_init 35 = .ok (.aload_n 0, 1) := by decide +kernel
theorem d_N_init_36 : decode b_N_init 36 = .ok (.getfield 12, 3) := by decide +kernel
theorem d_N_init_39 : decode b_N_init 39 = .ok (.aload_n 0, 1) := by decide +kernel
theorem d_N_init_40 : decode b_N_init 40 = .ok (.getfield 21, 3) := by decide +kernel
theorem d_N_init_43 : decode b_N_init 43 = .ok (.invokespecial 27, 3) := by decide +kernel
theorem d_N_init_46 : decode b_N_init 46 = .ok (.putfield 30, 3) := by decide +kernel
theorem d_N_init_49 : decode b_N_init 49 = .ok (.aload_n 0, 1) := by decide +kernel
theorem d_N_init_50 : decode b_N_init 50 = .ok (.new 34, 3) := by decide +kernel
theorem d_N_init_53 : decode b_N_init 53 = .ok (.dup, 1) := by decide +kernel
theorem d_N_init_54 : decode b_N_init 54 = .ok (.aload_n 0, 1) := by decide +kernel
theorem d_N_init_55 : decode b_N_init 55 = .ok (.getfield 12, 3) := by decide +kernel
theorem d_N_init_58 : decode b_N_init 58 = .ok (.aload_n 0, 1) := by decide +kernel
theorem d_N_init_59 : decode b_N_init 59 = .ok (.getfield 21, 3) := by decide +kernel
theorem d_N_init_62 : decode b_N_init 62 = .ok (.aload_n 0, 1) := by decide +kernel
theorem d_N_init_63 : decode b_N_init 63 = .ok (.getfield 30, 3) := by decide +kernel
theorem d_N_init_66 : decode b_N_init 66 = .ok (.invokespecial 36, 3) := by decide +kernel
theorem d_N_init_69 : decode b_N_init 69 = .ok (.putfield 39, 3) := by decide +kernel
theorem d_N_init_72 : decode b_N_init 72 = .ok (.aload_n 0, 1) := by decide +kernel
theorem d_N_init_73 : decode b_N_init 73 = .ok (.new 43, 3) := by decide +kernel
theorem d_N_init_76 : decode b_N_init 76 = .ok (.dup, 1) := by decide +kernel
theorem d_N_init_77 : decode b_N_init 77 = .ok (.aload_n 0, 1) := by decide +kernel
theorem d_N_init_78 : decode b_N_init 78 = .ok (.getfield 12, 3) := by decide +kernel
theorem d_N_init_81 : decode b_N_init 81 = .ok (.aload_n 0, 1) := by decide +kernel
theorem d_N_init_82 : decode b_N_init 82 = .ok (.getfield 30, 3) := by decide +kernel
theorem d_N_init_85 : decode b_N_init 85 = .ok (.aload_n 0, 1) := by decide +kernel
theorem d_N_init_86 : decode b_N_init 86 = .ok (.getfield 39, 3) := by decide +kernel
theorem d_N_init_89 : decode b_N_init 89 = .ok (.invokespecial 45, 3) := by decide +kernel
theorem d_N_init_92 : decode b_N_init 92 = .ok (.putfield 48, 3) := by decide +kernel
theorem d_N_init_95 : decode b_N_init 95 = .ok (.aload_n 0, 1) := by decide +kernel
theorem d_N_init_96 : decode b_N_init 96 = .ok (.new 52, 3) := by decide +kernel
theorem d_N_init_99 : decode b_N_init 99 = .ok (.dup, 1) := by decide +kernel
theorem d_N_init_100 : decode b_N_init 100 = .ok (.aload_n 0, 1) := by decide +kernel
theorem d_N_init_101 : decode b_N_init 101 = .ok (.getfield 12, 3) := by decide +kernel
theorem d_N_init_104 : decode b_N_init 104 = .ok (.aload_n 0, 1) := by decide +kernel
theorem d_N_init_105 : decode b_N_init 105 = .ok (.getfield 30, 3) := by decide +kernel
theorem d_N_init_108 : decode b_N_init 108 = .ok (.aload_n 0, 1) := by decide +kernel
theorem d_N_init_109 : decode b_N_init 109 = .ok (.getfield 39, 3) := by decide +kernel
theorem d_N_init_112 : decode b_N_init 112 = .ok (.aload_n 0, 1) := by decide +kernel
theorem d_N_init_113 : decode b_N_init 113 = .ok (.getfield 48, 3) := by decide +kernel
theorem d_N_init_116 : decode b_N_init 116 = .ok (.invokespecial 54, 3) := by decide +kernel
theorem d_N_init_119 : decode b_N_init 119 = .ok (.putfield 57, 3) := by decide +kernel
theorem d_N_init_122 : decode b_N_init 122 = .ok (.aload_n 0, 1) := by decide +kernel
theorem d_N_init_123 : decode b_N_init 123 = .ok (.iconst 0, 1) := by decide +kernel
theorem d_N_init_124 : decode b_N_init 124 = .ok (.putfield 61, 3) := by decide +kernel
theorem d_N_init_127 : decode b_N_init 127 = .ok (.return_, 1) := by decide +kernel
theorem d_N_block_0 : decode b_N_block 0 = .ok (.aload_n 0, 1) := by decide +kernel
theorem d_N_block_1 : decode b_N_block 1 = .ok (.getfield 12, 3) := by decide +kernel
theorem d_N_block_4 : decode b_N_block 4 = .ok (.getfield 65, 3) := by decide +kernel
theorem d_N_block_7 : decode b_N_block 7 = .ok (.bipush 10, 2) := by decide +kernel
theorem d_N_block_9 : decode b_N_block 9 = .ok (.if_icmp .lt 13, 3) := by decide +kernel
theorem d_N_block_22 : decode b_N_block 22 = .ok (.aload_n 0, 1) := by decide +kernel
theorem d_N_block_23 : decode b_N_block 23 = .ok (.iconst 0, 1) := by decide +kernel
theorem d_N_block_24 : decode b_N_block 24 = .ok (.putfield 61, 3) := by decide +kernel
theorem d_N_block_27 : decode b_N_block 27 = .ok (.aload_n 0, 1) := by decide +kernel
theorem d_N_block_28 : decode b_N_block 28 = .ok (.getfield 12, 3) := by decide +kernel
theorem d_N_block_31 : decode b_N_block 31 = .ok (.invokevirtual 76, 3) := by decide +kernel
theorem d_N_block_34 : decode b_N_block 34 = .ok (.ireturn, 1) := by decide +kernel
theorem d_N_put_0 : decode b_N_put 0 = .ok (.aload_n 0, 1) := by decide +kernel
theorem d_N_put_1 : decode b_N_put 1 = .ok (.getfield 12, 3) := by decide +kernel
theorem d_N_put_4 : decode b_N_put 4 = .ok (.iload_n 1, 1) := by decide +kernel
theorem d_N_put_5 : decode b_N_put 5 = .ok (.invokevirtual 80, 3) := by decide +kernel
theorem d_N_put_8 : decode b_N_put 8 = .ok (.ifCond .eq 15, 3) := by decide +kernel
theorem d_N_put_23 : decode b_N_put 23 = .ok (.new 88, 3) := by decide +kernel
theorem d_N_put_26 : decode b_N_put 26 = .ok (.dup, 1) := by decide +kernel
theorem d_N_put_27 : decode b_N_put 27 = .ok (.ldc 90, 2) := by decide +kernel
theorem d_N_put_29 : decode b_N_put 29 = .ok (.invokespecial 92, 3) := by decide +kernel
theorem d_N_put_32 : decode b_N_put 32 = .ok (.athrow, 1) := by decide +kernel
theorem d_N_go_0 : decode b_N_go 0 = .ok (.aload_n 0, 1) := by decide +kernel
theorem d_N_go_1 : decode b_N_go 1 = .ok (.getfield 12, 3) := by decide +kernel
theorem d_N_go_4 : decode b_N_go 4 = .ok (.iload_n 1, 1) := by decide +kernel
theorem d_N_go_5 : decode b_N_go 5 = .ok (.invokevirtual 80, 3) := by decide +kernel
theorem d_N_go_8 : decode b_N_go 8 = .ok (.ifCond .eq 14, 3) := by decide +kernel
theorem d_N_go_22 : decode b_N_go 22 = .ok (.new 88, 3) := by decide +kernel
theorem d_N_go_25 : decode b_N_go 25 = .ok (.dup, 1) := by decide +kernel
theorem d_N_go_26 : decode b_N_go 26 = .ok (.ldc 106, 2) := by decide +kernel
theorem d_N_go_28 : decode b_N_go 28 = .ok (.invokespecial 92, 3) := by decide +kernel
theorem d_N_go_31 : decode b_N_go 31 = .ok (.athrow, 1) := by decide +kernel
theorem d_N_fork_0 : decode b_N_fork 0 = .ok (.aload_n 0, 1) := by decide +kernel
theorem d_N_fork_1 : decode b_N_fork 1 = .ok (.getfield 12, 3) := by decide +kernel
theorem d_N_fork_4 : decode b_N_fork 4 = .ok (.iload_n 1, 1) := by decide +kernel
theorem d_N_fork_5 : decode b_N_fork 5 = .ok (.invokevirtual 80, 3) := by decide +kernel
theorem d_N_fork_8 : decode b_N_fork 8 = .ok (.ifCond .eq 33, 3) := by decide +kernel
theorem d_N_fork_41 : decode b_N_fork 41 = .ok (.new 88, 3) := by decide +kernel
theorem d_N_fork_44 : decode b_N_fork 44 = .ok (.dup, 1) := by decide +kernel
theorem d_N_fork_45 : decode b_N_fork 45 = .ok (.ldc 115, 2) := by decide +kernel
theorem d_N_fork_47 : decode b_N_fork 47 = .ok (.invokespecial 92, 3) := by decide +kernel
theorem d_N_fork_50 : decode b_N_fork 50 = .ok (.athrow, 1) := by decide +kernel
theorem d_N_stop_0 : decode b_N_stop 0 = .ok (.aload_n 0, 1) := by decide +kernel
theorem d_N_stop_1 : decode b_N_stop 1 = .ok (.getfield 12, 3) := by decide +kernel
theorem d_N_stop_4 : decode b_N_stop 4 = .ok (.iload_n 1, 1) := by decide +kernel
theorem d_N_stop_5 : decode b_N_stop 5 = .ok (.invokevirtual 80, 3) := by decide +kernel
theorem d_N_stop_8 : decode b_N_stop 8 = .ok (.ifCond .ne 13, 3) := by decide +kernel
theorem d_N_stop_11 : decode b_N_stop 11 = .ok (.new 88, 3) := by decide +kernel
theorem d_N_stop_14 : decode b_N_stop 14 = .ok (.dup, 1) := by decide +kernel
theorem d_N_stop_15 : decode b_N_stop 15 = .ok (.ldc 117, 2) := by decide +kernel
theorem d_N_stop_17 : decode b_N_stop 17 = .ok (.invokespecial 92, 3) := by decide +kernel
theorem d_N_stop_20 : decode b_N_stop 20 = .ok (.athrow, 1) := by decide +kernel
theorem d_N_clear_0 : decode b_N_clear 0 = .ok (.aload_n 0, 1) := by decide +kernel
theorem d_N_clear_1 : decode b_N_clear 1 = .ok (.iconst 0, 1) := by decide +kernel
theorem d_N_clear_2 : decode b_N_clear 2 = .ok (.putfield 61, 3) := by decide +kernel
theorem d_N_clear_5 : decode b_N_clear 5 = .ok (.aload_n 0, 1) := by decide +kernel
theorem d_N_clear_6 : decode b_N_clear 6 = .ok (.getfield 12, 3) := by decide +kernel
theorem d_N_clear_9 : decode b_N_clear 9 = .ok (.iconst 0, 1) := by decide +kernel
theorem d_N_clear_10 : decode b_N_clear 10 = .ok (.putfield 65, 3) := by decide +kernel
theorem d_N_clear_13 : decode b_N_clear 13 = .ok (.return_, 1) := by decide +kernel
theorem d_N_build_0 : decode b_N_build 0 = .ok (.aload_n 0, 1) := by decide +kernel
theorem d_N_build_1 : decode b_N_build 1 = .ok (.getfield 12, 3) := by decide +kernel
theorem d_N_build_4 : decode b_N_build 4 = .ok (.getfield 65, 3) := by decide +kernel
theorem d_N_build_7 : decode b_N_build 7 = .ok (.ifCond .ne 13, 3) := by decide +kernel
theorem d_N_build_10 : decode b_N_build 10 = .ok (.new 69, 3) := by decide +kernel
theorem d_N_build_13 : decode b_N_build 13 = .ok (.dup, 1) := by decide +kernel
theorem d_N_build_14 : decode b_N_build 14 = .ok (.ldc 119, 2) := by decide +kernel
theorem d_N_build_16 : decode b_N_build 16 = .ok (.invokespecial 73, 3) := by decide +kernel
theorem d_N_build_19 : decode b_N_build 19 = .ok (.athrow, 1) := by decide +kernel
theorem d_N_look_0 : decode b_N_look 0 = .ok (.aload_n 0, 1) := by decide +kernel
theorem d_N_look_1 : decode b_N_look 1 = .ok (.getfield 12, 3) := by decide +kernel
theorem d_N_look_4 : decode b_N_look 4 = .ok (.iload_n 1, 1) := by decide +kernel
theorem d_N_look_5 : decode b_N_look 5 = .ok (.invokevirtual 80, 3) := by decide +kernel
theorem d_N_look_8 : decode b_N_look 8 = .ok (.ifCond .eq 12, 3) := by decide +kernel
theorem d_N_look_20 : decode b_N_look 20 = .ok (.new 136, 3) := by decide +kernel
theorem d_N_look_23 : decode b_N_look 23 = .ok (.dup, 1) := by decide +kernel
theorem d_N_look_24 : decode b_N_look 24 = .ok (.ldc 138, 2) := by decide +kernel
theorem d_N_look_26 : decode b_N_look 26 = .ok (.invokespecial 140, 3) := by decide +kernel
theorem d_N_look_29 : decode b_N_look 29 = .ok (.athrow, 1) := by decide +kernel
theorem d_N_phi_0 : decode b_N_phi 0 = .ok (.aload_n 0, 1) := by decide +kernel
theorem d_N_phi_1 : decode b_N_phi 1 = .ok (.getfield 61, 3) := by decide +kernel
theorem d_N_phi_4 : decode b_N_phi 4 = .ok (.ifCond .ne 13, 3) := by decide +kernel
theorem d_N_phi_7 : decode b_N_phi 7 = .ok (.new 69, 3) := by decide +kernel
theorem d_N_phi_10 : decode b_N_phi 10 = .ok (.dup, 1) := by decide +kernel
theorem d_N_phi_11 : decode b_N_phi 11 = .ok (.ldc 141, 2) := by decide +kernel
theorem d_N_phi_13 : decode b_N_phi 13 = .ok (.invokespecial 73, 3) := by decide +kernel
theorem d_N_phi_16 : decode b_N_phi 16 = .ok (.athrow, 1) := by decide +kernel
theorem d_N_uses_0 : decode b_N_uses 0 = .ok (.aload_n 0, 1) := by decide +kernel
theorem d_N_uses_1 : decode b_N_uses 1 = .ok (.getfield 61, 3) := by decide +kernel
theorem d_N_uses_4 : decode b_N_uses 4 = .ok (.ifCond .ne 13, 3) := by decide +kernel
theorem d_N_uses_7 : decode b_N_uses 7 = .ok (.new 69, 3) := by decide +kernel
theorem d_N_uses_10 : decode b_N_uses 10 = .ok (.dup, 1) := by decide +kernel
theorem d_N_uses_11 : decode b_N_uses 11 = .ok (.ldc 141, 2) := by decide +kernel
theorem d_N_uses_13 : decode b_N_uses 13 = .ok (.invokespecial 73, 3) := by decide +kernel
theorem d_N_uses_16 : decode b_N_uses 16 = .ok (.athrow, 1) := by decide +kernel
theorem d_N_name_0 : decode b_N_name 0 = .ok (.aload_n 0, 1) := by decide +kernel
theorem d_N_name_1 : decode b_N_name 1 = .ok (.getfield 61, 3) := by decide +kernel
theorem d_N_name_4 : decode b_N_name 4 = .ok (.ifCond .ne 13, 3) := by decide +kernel
theorem d_N_name_7 : decode b_N_name 7 = .ok (.new 69, 3) := by decide +kernel
theorem d_N_name_10 : decode b_N_name 10 = .ok (.dup, 1) := by decide +kernel
theorem d_N_name_11 : decode b_N_name 11 = .ok (.ldc 141, 2) := by decide +kernel
theorem d_N_name_13 : decode b_N_name 13 = .ok (.invokespecial 73, 3) := by decide +kernel
theorem d_N_name_16 : decode b_N_name 16 = .ok (.athrow, 1) := by decide +kernel
theorem d_N_give_0 : decode b_N_give 0 = .ok (.aload_n 0, 1) := by decide +kernel
theorem d_N_give_1 : decode b_N_give 1 = .ok (.getfield 57, 3) := by decide +kernel
theorem d_N_give_4 : decode b_N_give 4 = .ok (.iload_n 1, 1) := by decide +kernel
theorem d_N_give_5 : decode b_N_give 5 = .ok (.invokevirtual 213, 3) := by decide +kernel
theorem d_N_give_8 : decode b_N_give 8 = .ok (.ireturn, 1) := by decide +kernel
theorem d_N_take_0 : decode b_N_take 0 = .ok (.aload_n 0, 1) := by decide +kernel
theorem d_N_take_1 : decode b_N_take 1 = .ok (.getfield 57, 3) := by decide +kernel
theorem d_N_take_4 : decode b_N_take 4 = .ok (.iconst 0, 1) := by decide +kernel
theorem d_N_take_5 : decode b_N_take 5 = .ok (.putfield 216, 3) := by decide +kernel
theorem d_N_take_8 : decode b_N_take 8 = .ok (.return_, 1) := by decide +kernel
theorem d_N_run_0 : decode b_N_run 0 = .ok (.iload_n 2, 1) := by decide +kernel
theorem d_N_run_1 : decode b_N_run 1 = .ok (.ifCond .lt 10, 3) := by decide +kernel
theorem d_N_run_4 : decode b_N_run 4 = .ok (.iload_n 2, 1) := by decide +kernel
theorem d_N_run_5 : decode b_N_run 5 = .ok (.sipush 200, 3) := by decide +kernel
theorem d_N_run_8 : decode b_N_run 8 = .ok (.if_icmp .le 13, 3) := by decide +kernel
theorem d_N_run_11 : decode b_N_run 11 = .ok (.new 88, 3) := by decide +kernel
theorem d_N_run_14 : decode b_N_run 14 = .ok (.dup, 1) := by decide +kernel
theorem d_N_run_15 : decode b_N_run 15 = .ok (.ldc 219, 2) := by decide +kernel
theorem d_N_run_17 : decode b_N_run 17 = .ok (.invokespecial 92, 3) := by decide +kernel
theorem d_N_run_20 : decode b_N_run 20 = .ok (.athrow, 1) := by decide +kernel
theorem d_N_run_21 : decode b_N_run 21 = .ok (.aload_n 0, 1) := by decide +kernel
theorem d_N_run_22 : decode b_N_run 22 = .ok (.getfield 61, 3) := by decide +kernel
theorem d_N_run_25 : decode b_N_run 25 = .ok (.ifCond .ne 13, 3) := by decide +kernel
theorem d_N_run_28 : decode b_N_run 28 = .ok (.new 69, 3) := by decide +kernel
theorem d_N_run_31 : decode b_N_run 31 = .ok (.dup, 1) := by decide +kernel
theorem d_N_run_32 : decode b_N_run 32 = .ok (.ldc 141, 2) := by decide +kernel
theorem d_N_run_34 : decode b_N_run 34 = .ok (.invokespecial 73, 3) := by decide +kernel
theorem d_N_run_37 : decode b_N_run 37 = .ok (.athrow, 1) := by decide +kernel
theorem d_N_told_0 : decode b_N_told 0 = .ok (.aload_n 0, 1) := by decide +kernel
theorem d_N_told_1 : decode b_N_told 1 = .ok (.getfield 57, 3) := by decide +kernel
theorem d_N_told_4 : decode b_N_told 4 = .ok (.getfield 225, 3) := by decide +kernel
theorem d_N_told_7 : decode b_N_told 7 = .ok (.ireturn, 1) := by decide +kernel
theorem d_N_heard_0 : decode b_N_heard 0 = .ok (.iload_n 1, 1) := by decide +kernel
theorem d_N_heard_1 : decode b_N_heard 1 = .ok (.ifCond .lt 20, 3) := by decide +kernel
theorem d_N_heard_4 : decode b_N_heard 4 = .ok (.iload_n 1, 1) := by decide +kernel
theorem d_N_heard_5 : decode b_N_heard 5 = .ok (.bipush 40, 2) := by decide +kernel
theorem d_N_heard_7 : decode b_N_heard 7 = .ok (.if_icmp .ge 14, 3) := by decide +kernel
theorem d_N_heard_10 : decode b_N_heard 10 = .ok (.iload_n 1, 1) := by decide +kernel
theorem d_N_heard_11 : decode b_N_heard 11 = .ok (.aload_n 0, 1) := by decide +kernel
theorem d_N_heard_12 : decode b_N_heard 12 = .ok (.getfield 57, 3) := by decide +kernel
theorem d_N_heard_15 : decode b_N_heard 15 = .ok (.getfield 225, 3) := by decide +kernel
theorem d_N_heard_18 : decode b_N_heard 18 = .ok (.if_icmp .lt 13, 3) := by decide +kernel
theorem d_N_heard_21 : decode b_N_heard 21 = .ok (.new 136, 3) := by decide +kernel
theorem d_N_heard_24 : decode b_N_heard 24 = .ok (.dup, 1) := by decide +kernel
theorem d_N_heard_25 : decode b_N_heard 25 = .ok (.ldc 228, 2) := by decide +kernel
theorem d_N_heard_27 : decode b_N_heard 27 = .ok (.invokespecial 140, 3) := by decide +kernel
theorem d_N_heard_30 : decode b_N_heard 30 = .ok (.athrow, 1) := by decide +kernel
theorem d_N_spent_0 : decode b_N_spent 0 = .ok (.iload_n 1, 1) := by decide +kernel
theorem d_N_spent_1 : decode b_N_spent 1 = .ok (.tableswitch 51 0 2 #[27, 35, 43], 27) := by decide +kernel
theorem d_N_spent_28 : decode b_N_spent 28 = .ok (.aload_n 0, 1) := by decide +kernel
theorem d_N_spent_29 : decode b_N_spent 29 = .ok (.getfield 57, 3) := by decide +kernel
theorem d_N_spent_32 : decode b_N_spent 32 = .ok (.getfield 233, 3) := by decide +kernel
theorem d_N_spent_35 : decode b_N_spent 35 = .ok (.ireturn, 1) := by decide +kernel
theorem d_N_spent_36 : decode b_N_spent 36 = .ok (.aload_n 0, 1) := by decide +kernel
theorem d_N_spent_37 : decode b_N_spent 37 = .ok (.getfield 57, 3) := by decide +kernel
theorem d_N_spent_40 : decode b_N_spent 40 = .ok (.getfield 236, 3) := by decide +kernel
theorem d_N_spent_43 : decode b_N_spent 43 = .ok (.ireturn, 1) := by decide +kernel
theorem d_N_spent_44 : decode b_N_spent 44 = .ok (.aload_n 0, 1) := by decide +kernel
theorem d_N_spent_45 : decode b_N_spent 45 = .ok (.getfield 57, 3) := by decide +kernel
theorem d_N_spent_48 : decode b_N_spent 48 = .ok (.getfield 239, 3) := by decide +kernel
theorem d_N_spent_51 : decode b_N_spent 51 = .ok (.ireturn, 1) := by decide +kernel
theorem d_N_spent_52 : decode b_N_spent 52 = .ok (.iconst (-1), 1) := by decide +kernel
theorem d_N_spent_53 : decode b_N_spent 53 = .ok (.ireturn, 1) := by decide +kernel
theorem d_R_init_0 : decode b_R_init 0 = .ok (.aload_n 0, 1) := by decide +kernel
theorem d_R_init_1 : decode b_R_init 1 = .ok (.invokespecial 1, 3) := by decide +kernel
theorem d_R_init_4 : decode b_R_init 4 = .ok (.aload_n 0, 1) := by decide +kernel
theorem d_R_init_5 : decode b_R_init 5 = .ok (.bipush 10, 2) := by decide +kernel
theorem d_R_init_7 : decode b_R_init 7 = .ok (.newarray .int, 2) := by decide +kernel
theorem d_R_init_9 : decode b_R_init 9 = .ok (.putfield 7, 3) := by decide +kernel
theorem d_R_init_12 : decode b_R_init 12 = .ok (.aload_n 0, 1) := by decide +kernel
theorem d_R_init_13 : decode b_R_init 13 = .ok (.bipush 60, 2) := by decide +kernel
theorem d_R_init_15 : decode b_R_init 15 = .ok (.newarray .int, 2) := by decide +kernel
theorem d_R_init_17 : decode b_R_init 17 = .ok (.putfield 13, 3) := by decide +kernel
theorem d_R_init_20 : decode b_R_init 20 = .ok (.aload_n 0, 1) := by decide +kernel
theorem d_R_init_21 : decode b_R_init 21 = .ok (.bipush 60, 2) := by decide +kernel
theorem d_R_init_23 : decode b_R_init 23 = .ok (.newarray .int, 2) := by decide +kernel
theorem d_R_init_25 : decode b_R_init 25 = .ok (.putfield 16, 3) := by decide +kernel
theorem d_R_init_28 : decode b_R_init 28 = .ok (.aload_n 0, 1) := by decide +kernel
theorem d_R_init_29 : decode b_R_init 29 = .ok (.bipush 60, 2) := by decide +kernel
theorem d_R_init_31 : decode b_R_init 31 = .ok (.newarray .int, 2) := by decide +kernel
theorem d_R_init_33 : decode b_R_init 33 = .ok (.putfield 19, 3) := by decide +kernel
theorem d_R_init_36 : decode b_R_init 36 = .ok (.aload_n 0, 1) := by decide +kernel
theorem d_R_init_37 : decode b_R_init 37 = .ok (.bipush 60, 2) := by decide +kernel
theorem d_R_init_39 : decode b_R_init 39 = .ok (.newarray .int, 2) := by decide +kernel
theorem d_R_init_41 : decode b_R_init 41 = .ok (.putfield 22, 3) := by decide +kernel
theorem d_R_init_44 : decode b_R_init 44 = .ok (.aload_n 0, 1) := by decide +kernel
theorem d_R_init_45 : decode b_R_init 45 = .ok (.bipush 10, 2) := by decide +kernel
theorem d_R_init_47 : decode b_R_init 47 = .ok (.newarray .int, 2) := by decide +kernel
theorem d_R_init_49 : decode b_R_init 49 = .ok (.putfield 25, 3) := by decide +kernel
theorem d_R_init_52 : decode b_R_init 52 = .ok (.aload_n 0, 1) := by decide +kernel
theorem d_R_init_53 : decode b_R_init 53 = .ok (.bipush 10, 2) := by decide +kernel
theorem d_R_init_55 : decode b_R_init 55 = .ok (.newarray .int, 2) := by decide +kernel
theorem d_R_init_57 : decode b_R_init 57 = .ok (.putfield 28, 3) := by decide +kernel
theorem d_R_init_60 : decode b_R_init 60 = .ok (.aload_n 0, 1) := by decide +kernel
theorem d_R_init_61 : decode b_R_init 61 = .ok (.bipush 10, 2) := by decide +kernel
theorem d_R_init_63 : decode b_R_init 63 = .ok (.newarray .int, 2) := by decide +kernel
theorem d_R_init_65 : decode b_R_init 65 = .ok (.putfield 31, 3) := by decide +kernel
theorem d_R_init_68 : decode b_R_init 68 = .ok (.aload_n 0, 1) := by decide +kernel
theorem d_R_init_69 : decode b_R_init 69 = .ok (.bipush 10, 2) := by decide +kernel
theorem d_R_init_71 : decode b_R_init 71 = .ok (.newarray .int, 2) := by decide +kernel
theorem d_R_init_73 : decode b_R_init 73 = .ok (.putfield 34, 3) := by decide +kernel
theorem d_R_init_76 : decode b_R_init 76 = .ok (.aload_n 0, 1) := by decide +kernel
theorem d_R_init_77 : decode b_R_init 77 = .ok (.bipush 10, 2) := by decide +kernel
theorem d_R_init_79 : decode b_R_init 79 = .ok (.newarray .int, 2) := by decide +kernel
theorem d_R_init_81 : decode b_R_init 81 = .ok (.putfield 37, 3) := by decide +kernel
theorem d_R_init_84 : decode b_R_init 84 = .ok (.aload_n 0, 1) := by decide +kernel
theorem d_R_init_85 : decode b_R_init 85 = .ok (.bipush 10, 2) := by decide +kernel
theorem d_R_init_87 : decode b_R_init 87 = .ok (.newarray .int, 2) := by decide +kernel
theorem d_R_init_89 : decode b_R_init 89 = .ok (.putfield 40, 3) := by decide +kernel
theorem d_R_init_92 : decode b_R_init 92 = .ok (.aload_n 0, 1) := by decide +kernel
theorem d_R_init_93 : decode b_R_init 93 = .ok (.bipush 10, 2) := by decide +kernel
theorem d_R_init_95 : decode b_R_init 95 = .ok (.newarray .int, 2) := by decide +kernel
theorem d_R_init_97 : decode b_R_init 97 = .ok (.putfield 43, 3) := by decide +kernel
theorem d_R_init_100 : decode b_R_init 100 = .ok (.aload_n 0, 1) := by decide +kernel
theorem d_R_init_101 : decode b_R_init 101 = .ok (.bipush 10, 2) := by decide +kernel
theorem d_R_init_103 : decode b_R_init 103 = .ok (.newarray .int, 2) := by decide +kernel
theorem d_R_init_105 : decode b_R_init 105 = .ok (.putfield 46, 3) := by decide +kernel
theorem d_R_init_108 : decode b_R_init 108 = .ok (.aload_n 0, 1) := by decide +kernel
theorem d_R_init_109 : decode b_R_init 109 = .ok (.sipush 130, 3) := by decide +kernel
theorem d_R_init_112 : decode b_R_init 112 = .ok (.newarray .int, 2) := by decide +kernel
theorem d_R_init_114 : decode b_R_init 114 = .ok (.putfield 49, 3) := by decide +kernel
theorem d_R_init_117 : decode b_R_init 117 = .ok (.aload_n 0, 1) := by decide +kernel
theorem d_R_init_118 : decode b_R_init 118 = .ok (.sipush 130, 3) := by decide +kernel
theorem d_R_init_121 : decode b_R_init 121 = .ok (.newarray .int, 2) := by decide +kernel
theorem d_R_init_123 : decode b_R_init 123 = .ok (.putfield 52, 3) := by decide +kernel
theorem d_R_init_126 : decode b_R_init 126 = .ok (.aload_n 0, 1) := by decide +kernel
theorem d_R_init_127 : decode b_R_init 127 = .ok (.bipush 60, 2) := by decide +kernel
theorem d_R_init_129 : decode b_R_init 129 = .ok (.newarray .int, 2) := by decide +kernel
theorem d_R_init_131 : decode b_R_init 131 = .ok (.putfield 55, 3) := by decide +kernel
theorem d_R_init_134 : decode b_R_init 134 = .ok (.aload_n 0, 1) := by decide +kernel
theorem d_R_init_135 : decode b_R_init 135 = .ok (.bipush 60, 2) := by decide +kernel
theorem d_R_init_137 : decode b_R_init 137 = .ok (.newarray .int, 2) := by decide +kernel
theorem d_R_init_139 : decode b_R_init 139 = .ok (.putfield 58, 3) := by decide +kernel
theorem d_R_init_142 : decode b_R_init 142 = .ok (.aload_n 0, 1) := by decide +kernel
theorem d_R_init_143 : decode b_R_init 143 = .ok (.bipush 60, 2) := by decide +kernel
theorem d_R_init_145 : decode b_R_init 145 = .ok (.newarray .int, 2) := by decide +kernel
theorem d_R_init_147 : decode b_R_init 147 = .ok (.putfield 61, 3) := by decide +kernel
theorem d_R_init_150 : decode b_R_init 150 = .ok (.aload_n 0, 1) := by decide +kernel
theorem d_R_init_151 : decode b_R_init 151 = .ok (.bipush 60, 2) := by decide +kernel
theorem d_R_init_153 : decode b_R_init 153 = .ok (.newarray .int, 2) := by decide +kernel
theorem d_R_init_155 : decode b_R_init 155 = .ok (.putfield 64, 3) := by decide +kernel
theorem d_R_init_158 : decode b_R_init 158 = .ok (.aload_n 0, 1) := by decide +kernel
theorem d_R_init_159 : decode b_R_init 159 = .ok (.bipush 10, 2) := by decide +kernel
theorem d_R_init_161 : decode b_R_init 161 = .ok (.newarray .int, 2) := by decide +kernel
theorem d_R_init_163 : decode b_R_init 163 = .ok (.putfield 67, 3) := by decide +kernel
theorem d_R_init_166 : decode b_R_init 166 = .ok (.aload_n 0, 1) := by decide +kernel
theorem d_R_init_167 : decode b_R_init 167 = .ok (.bipush 60, 2) := by decide +kernel
theorem d_R_init_169 : decode b_R_init 169 = .ok (.newarray .int, 2) := by decide +kernel
theorem d_R_init_171 : decode b_R_init 171 = .ok (.putfield 70, 3) := by decide +kernel
theorem d_R_init_174 : decode b_R_init 174 = .ok (.aload_n 0, 1) := by decide +kernel
theorem d_R_init_175 : decode b_R_init 175 = .ok (.bipush 12, 2) := by decide +kernel
theorem d_R_init_177 : decode b_R_init 177 = .ok (.newarray .int, 2) := by decide +kernel
theorem d_R_init_179 : decode b_R_init 179 = .ok (.putfield 73, 3) := by decide +kernel
theorem d_R_init_182 : decode b_R_init 182 = .ok (.aload_n 0, 1) := by decide +kernel
theorem d_R_init_183 : decode b_R_init 183 = .ok (.bipush 10, 2) := by decide +kernel
theorem d_R_init_185 : decode b_R_init 185 = .ok (.newarray .int, 2) := by decide +kernel
theorem d_R_init_187 : decode b_R_init 187 = .ok (.putfield 76, 3) := by decide +kernel
theorem d_R_init_190 : decode b_R_init 190 = .ok (.aload_n 0, 1) := by decide +kernel
theorem d_R_init_191 : decode b_R_init 191 = .ok (.sipush 130, 3) := by decide +kernel
theorem d_R_init_194 : decode b_R_init 194 = .ok (.newarray .int, 2) := by decide +kernel
theorem d_R_init_196 : decode b_R_init 196 = .ok (.putfield 79, 3) := by decide +kernel
theorem d_R_init_199 : decode b_R_init 199 = .ok (.aload_n 0, 1) := by decide +kernel
theorem d_R_init_200 : decode b_R_init 200 = .ok (.sipush 130, 3) := by decide +kernel
theorem d_R_init_203 : decode b_R_init 203 = .ok (.newarray .int, 2) := by decide +kernel
theorem d_R_init_205 : decode b_R_init 205 = .ok (.putfield 82, 3) := by decide +kernel
theorem d_R_init_208 : decode b_R_init 208 = .ok (.aload_n 0, 1) := by decide +kernel
theorem d_R_init_209 : decode b_R_init 209 = .ok (.sipush 130, 3) := by decide +kernel
theorem d_R_init_212 : decode b_R_init 212 = .ok (.newarray .boolean, 2) := by decide +kernel
theorem d_R_init_214 : decode b_R_init 214 = .ok (.putfield 85, 3) := by decide +kernel
theorem d_R_init_217 : decode b_R_init 217 = .ok (.aload_n 0, 1) := by decide +kernel
theorem d_R_init_218 : decode b_R_init 218 = .ok (.bipush 16, 2) := by decide +kernel
theorem d_R_init_220 : decode b_R_init 220 = .ok (.newarray .int, 2) := by decide +kernel
theorem d_R_init_222 : decode b_R_init 222 = .ok (.putfield 89, 3) := by decide +kernel
theorem d_R_init_225 : decode b_R_init 225 = .ok (.aload_n 0, 1) := by decide +kernel
theorem d_R_init_226 : decode b_R_init 226 = .ok (.bipush 40, 2) := by decide +kernel
theorem d_R_init_228 : decode b_R_init 228 = .ok (.newarray .int, 2) := by decide +kernel
theorem d_R_init_230 : decode b_R_init 230 = .ok (.putfield 92, 3) := by decide +kernel
theorem d_R_init_233 : decode b_R_init 233 = .ok (.aload_n 0, 1) := by decide +kernel
theorem d_R_init_234 : decode b_R_init 234 = .ok (.sipush 130, 3) := by decide +kernel
theorem d_R_init_237 : decode b_R_init 237 = .ok (.newarray .int, 2) := by decide +kernel
theorem d_R_init_239 : decode b_R_init 239 = .ok (.putfield 95, 3) := by decide +kernel
theorem d_R_init_242 : decode b_R_init 242 = .ok (.aload_n 0, 1) := by decide +kernel
theorem d_R_init_243 : decode b_R_init 243 = .ok (.bipush 6, 2) := by decide +kernel
theorem d_R_init_245 : decode b_R_init 245 = .ok (.newarray .int, 2) := by decide +kernel
theorem d_R_init_247 : decode b_R_init 247 = .ok (.putfield 98, 3) := by decide +kernel
theorem d_R_init_250 : decode b_R_init 250 = .ok (.return_, 1) := by decide +kernel
theorem d_R_thrown_0 : decode b_R_thrown 0 = .ok (.aload_n 0, 1) := by decide +kernel
theorem d_R_thrown_1 : decode b_R_thrown 1 = .ok (.getfield 101, 3) := by decide +kernel
theorem d_R_thrown_4 : decode b_R_thrown 4 = .ok (.ireturn, 1) := by decide +kernel
theorem d_R_fails_0 : decode b_R_fails 0 = .ok (.aload_n 0, 1) := by decide +kernel
theorem d_R_fails_1 : decode b_R_fails 1 = .ok (.iload_n 1, 1) := by decide +kernel
theorem d_R_fails_2 : decode b_R_fails 2 = .ok (.ifCond .eq 7, 3) := by decide +kernel
theorem d_R_fails_5 : decode b_R_fails 5 = .ok (.iload_n 2, 1) := by decide +kernel
theorem d_R_fails_6 : decode b_R_fails 6 = .ok (.goto 4, 3) := by decide +kernel
theorem d_R_fails_9 : decode b_R_fails 9 = .ok (.iconst 0, 1) := by decide +kernel
theorem d_R_fails_10 : decode b_R_fails 10 = .ok (.putfield 101, 3) := by decide +kernel
theorem d_R_fails_13 : decode b_R_fails 13 = .ok (.iload_n 1, 1) := by decide +kernel
theorem d_R_fails_14 : decode b_R_fails 14 = .ok (.ireturn, 1) := by decide +kernel
theorem d_R_noBlock_0 : decode b_R_noBlock 0 = .ok (.iload_n 1, 1) := by decide +kernel
theorem d_R_noBlock_1 : decode b_R_noBlock 1 = .ok (.ifCond .lt 11, 3) := by decide +kernel
theorem d_R_noBlock_4 : decode b_R_noBlock 4 = .ok (.iload_n 1, 1) := by decide +kernel
theorem d_R_noBlock_5 : decode b_R_noBlock 5 = .ok (.aload_n 0, 1) := by decide +kernel
theorem d_R_noBlock_6 : decode b_R_noBlock 6 = .ok (.getfield 105, 3) := by decide +kernel
theorem d_R_noBlock_9 : decode b_R_noBlock 9 = .ok (.if_icmp .lt 7, 3) := by decide +kernel
theorem d_R_noBlock_12 : decode b_R_noBlock 12 = .ok (.iconst 1, 1) := by decide +kernel
theorem d_R_noBlock_13 : decode b_R_noBlock 13 = .ok (.goto 4, 3) := by decide +kernel
theorem d_R_noBlock_17 : decode b_R_noBlock 17 = .ok (.ireturn, 1) := by decide +kernel
theorem d_R_block_0 : decode b_R_block 0 = .ok (.aload_n 0, 1) := by decide +kernel
theorem d_R_block_1 : decode b_R_block 1 = .ok (.aload_n 0, 1) := by decide +kernel
theorem d_R_block_2 : decode b_R_block 2 = .ok (.getfield 105, 3) := by decide +kernel
theorem d_R_block_5 : decode b_R_block 5 = .ok (.bipush 10, 2) := by decide +kernel
theorem d_R_block_7 : decode b_R_block 7 = .ok (.if_icmp .ne 7, 3) := by decide +kernel
theorem d_R_block_14 : decode b_R_block 14 = .ok (.iconst 0, 1) := by decide +kernel
theorem d_R_block_15 : decode b_R_block 15 = .ok (.iconst 1, 1) := by decide +kernel
theorem d_R_block_16 : decode b_R_block 16 = .ok (.invokevirtual 108, 3) := by decide +kernel
theorem d_R_block_19 : decode b_R_block 19 = .ok (.ifCond .eq 5, 3) := by decide +kernel
theorem d_R_block_24 : decode b_R_block 24 = .ok (.aload_n 0, 1) := by decide +kernel
theorem d_R_block_25 : decode b_R_block 25 = .ok (.getfield 7, 3) := by decide +kernel
theorem d_R_block_28 : decode b_R_block 28 = .ok (.aload_n 0, 1) := by decide +kernel
theorem d_R_block_29 : decode b_R_block 29 = .ok (.getfield 105, 3) := by decide +kernel
theorem d_R_block_32 : decode b_R_block 32 = .ok (.iconst 0, 1) := by decide +kernel
theorem d_R_block_33 : decode b_R_block 33 = .ok (.iastore, 1) := by decide +kernel
theorem d_R_block_34 : decode b_R_block 34 = .ok (.aload_n 0, 1) := by decide +kernel
theorem d_R_block_35 : decode b_R_block 35 = .ok (.getfield 25, 3) := by decide +kernel
theorem d_R_block_38 : decode b_R_block 38 = .ok (.aload_n 0, 1) := by decide +kernel
theorem d_R_block_39 : decode b_R_block 39 = .ok (.getfield 105, 3) := by decide +kernel
theorem d_R_block_42 : decode b_R_block 42 = .ok (.iconst 0, 1) := by decide +kernel
theorem d_R_block_43 : decode b_R_block 43 = .ok (.iastore, 1) := by decide +kernel
theorem d_R_block_44 : decode b_R_block 44 = .ok (.aload_n 0, 1) := by decide +kernel
theorem d_R_block_45 : decode b_R_block 45 = .ok (.dup, 1) := by decide +kernel
theorem d_R_block_46 : decode b_R_block 46 = .ok (.getfield 105, 3) := by decide +kernel
theorem d_R_block_49 : decode b_R_block 49 = .ok (.iconst 1, 1) := by decide +kernel
theorem d_R_block_50 : decode b_R_block 50 = .ok (.iadd, 1) := by decide +kernel
theorem d_R_block_51 : decode b_R_block 51 = .ok (.putfield 105, 3) := by decide +kernel
theorem d_R_block_54 : decode b_R_block 54 = .ok (.aload_n 0, 1) := by decide +kernel
theorem d_R_block_55 : decode b_R_block 55 = .ok (.iconst 0, 1) := by decide +kernel
theorem d_R_block_56 : decode b_R_block 56 = .ok (.putfield 112, 3) := by decide +kernel
theorem d_R_block_59 : decode b_R_block 59 = .ok (.aload_n 0, 1) := by decide +kernel
theorem d_R_block_60 : decode b_R_block 60 = .ok (.getfield 105, 3) := by decide +kernel
theorem d_R_block_63 : decode b_R_block 63 = .ok (.iconst 1, 1) := by decide +kernel
theorem d_R_block_64 : decode b_R_block 64 = .ok (.isub, 1) := by decide +kernel
theorem d_R_block_65 : decode b_R_block 65 = .ok (.ireturn, 1) := by decide +kernel
theorem d_R_put_0 : decode b_R_put 0 = .ok (.aload_n 0, 1) := by decide +kernel
theorem d_R_put_1 : decode b_R_put 1 = .ok (.iload_n 1, 1) := by decide +kernel
theorem d_R_put_2 : decode b_R_put 2 = .ok (.invokevirtual 116, 3) := by decide +kernel
theorem d_R_put_5 : decode b_R_put 5 = .ok (.ifCond .ne 57, 3) := by decide +kernel
theorem d_R_put_62 : decode b_R_put 62 = .ok (.iconst 1, 1) := by decide +kernel
theorem d_R_put_63 : decode b_R_put 63 = .ok (.goto 4, 3) := by decide +kernel
theorem d_R_put_67 : decode b_R_put 67 = .ok (.istore 6, 2) := by decide +kernel
theorem d_R_put_69 : decode b_R_put 69 = .ok (.aload_n 0, 1) := by decide +kernel
theorem d_R_put_70 : decode b_R_put 70 = .ok (.iload 6, 2) := by decide +kernel
theorem d_R_put_72 : decode b_R_put 72 = .ok (.iconst 1, 1) := by decide +kernel
theorem d_R_put_73 : decode b_R_put 73 = .ok (.invokevirtual 108, 3) := by decide +kernel
theorem d_R_put_76 : decode b_R_put 76 = .ok (.ifCond .ne 27, 3) := by decide +kernel
theorem d_R_put_103 : decode b_R_put 103 = .ok (.iconst 0, 1) := by decide +kernel
theorem d_R_put_104 : decode b_R_put 104 = .ok (.ireturn, 1) := by decide +kernel
theorem d_R_go_0 : decode b_R_go 0 = .ok (.aload_n 0, 1) := by decide +kernel
theorem d_R_go_1 : decode b_R_go 1 = .ok (.aload_n 0, 1) := by decide +kernel
theorem d_R_go_2 : decode b_R_go 2 = .ok (.iload_n 1, 1) := by decide +kernel
theorem d_R_go_3 : decode b_R_go 3 = .ok (.invokevirtual 116, 3) := by decide +kernel
theorem d_R_go_6 : decode b_R_go 6 = .ok (.ifCond .ne 11, 3) := by decide +kernel
theorem d_R_go_17 : decode b_R_go 17 = .ok (.iconst 1, 1) := by decide +kernel
theorem d_R_go_18 : decode b_R_go 18 = .ok (.goto 4, 3) := by decide +kernel
theorem d_R_go_22 : decode b_R_go 22 = .ok (.iconst 1, 1) := by decide +kernel
theorem d_R_go_23 : decode b_R_go 23 = .ok (.invokevirtual 108, 3) := by decide +kernel
theorem d_R_go_26 : decode b_R_go 26 = .ok (.ifCond .eq 4, 3) := by decide +kernel
theorem d_R_go_29 : decode b_R_go 29 = .ok (.return_, 1) := by decide +kernel
theorem d_R_fork_0 : decode b_R_fork 0 = .ok (.aload_n 0, 1) := by decide +kernel
theorem d_R_fork_1 : decode b_R_fork 1 = .ok (.aload_n 0, 1) := by decide +kernel
theorem d_R_fork_2 : decode b_R_fork 2 = .ok (.iload_n 1, 1) := by decide +kernel
theorem d_R_fork_3 : decode b_R_fork 3 = .ok (.invokevirtual 116, 3) := by decide +kernel
theorem d_R_fork_6 : decode b_R_fork 6 = .ok (.ifCond .ne 27, 3) := by decide +kernel
theorem d_R_fork_33 : decode b_R_fork 33 = .ok (.iconst 1, 1) := by decide +kernel
theorem d_R_fork_34 : decode b_R_fork 34 = .ok (.goto 4, 3) := by decide +kernel
theorem d_R_fork_38 : decode b_R_fork 38 = .ok (.iconst 1, 1) := by decide +kernel
theorem d_R_fork_39 : decode b_R_fork 39 = .ok (.invokevirtual 108, 3) := by decide +kernel
theorem d_R_fork_42 : decode b_R_fork 42 = .ok (.ifCond .eq 4, 3) := by decide +kernel
theorem d_R_fork_45 : decode b_R_fork 45 = .ok (.return_, 1) := by decide +kernel
theorem d_R_stop_0 : decode b_R_stop 0 = .ok (.aload_n 0, 1) := by decide +kernel
theorem d_R_stop_1 : decode b_R_stop 1 = .ok (.aload_n 0, 1) := by decide +kernel
theorem d_R_stop_2 : decode b_R_stop 2 = .ok (.iload_n 1, 1) := by decide +kernel
theorem d_R_stop_3 : decode b_R_stop 3 = .ok (.invokevirtual 116, 3) := by decide +kernel
theorem d_R_stop_6 : decode b_R_stop 6 = .ok (.iconst 1, 1) := by decide +kernel
theorem d_R_stop_7 : decode b_R_stop 7 = .ok (.invokevirtual 108, 3) := by decide +kernel
theorem d_R_stop_10 : decode b_R_stop 10 = .ok (.ifCond .eq 4, 3) := by decide +kernel
theorem d_R_stop_13 : decode b_R_stop 13 = .ok (.return_, 1) := by decide +kernel
theorem d_R_clear_0 : decode b_R_clear 0 = .ok (.aload_n 0, 1) := by decide +kernel
theorem d_R_clear_1 : decode b_R_clear 1 = .ok (.iconst 0, 1) := by decide +kernel
theorem d_R_clear_2 : decode b_R_clear 2 = .ok (.putfield 101, 3) := by decide +kernel
theorem d_R_clear_5 : decode b_R_clear 5 = .ok (.aload_n 0, 1) := by decide +kernel
theorem d_R_clear_6 : decode b_R_clear 6 = .ok (.iconst 0, 1) := by decide +kernel
theorem d_R_clear_7 : decode b_R_clear 7 = .ok (.putfield 105, 3) := by decide +kernel
theorem d_R_clear_10 : decode b_R_clear 10 = .ok (.aload_n 0, 1) := by decide +kernel
theorem d_R_clear_11 : decode b_R_clear 11 = .ok (.iconst 0, 1) := by decide +kernel
theorem d_R_clear_12 : decode b_R_clear 12 = .ok (.putfield 112, 3) := by decide +kernel
theorem d_R_clear_15 : decode b_R_clear 15 = .ok (.return_, 1) := by decide +kernel
theorem d_R_build_0 : decode b_R_build 0 = .ok (.aload_n 0, 1) := by decide +kernel
theorem d_R_build_1 : decode b_R_build 1 = .ok (.aload_n 0, 1) := by decide +kernel
theorem d_R_build_2 : decode b_R_build 2 = .ok (.getfield 105, 3) := by decide +kernel
theorem d_R_build_5 : decode b_R_build 5 = .ok (.ifCond .ne 7, 3) := by decide +kernel
theorem d_R_build_8 : decode b_R_build 8 = .ok (.iconst 1, 1) := by decide +kernel
theorem d_R_build_9 : decode b_R_build 9 = .ok (.goto 4, 3) := by decide +kernel
theorem d_R_build_13 : decode b_R_build 13 = .ok (.iconst 1, 1) := by decide +kernel
theorem d_R_build_14 : decode b_R_build 14 = .ok (.invokevirtual 108, 3) := by decide +kernel
theorem d_R_build_17 : decode b_R_build 17 = .ok (.ifCond .eq 5, 3) := by decide +kernel
theorem d_R_build_20 : decode b_R_build 20 = .ok (.iconst 0, 1) := by decide +kernel
theorem d_R_build_21 : decode b_R_build 21 = .ok (.ireturn, 1) := by decide +kernel
theorem d_R_look_0 : decode b_R_look 0 = .ok (.aload_n 0, 1) := by decide +kernel
theorem d_R_look_1 : decode b_R_look 1 = .ok (.aload_n 0, 1) := by decide +kernel
theorem d_R_look_2 : decode b_R_look 2 = .ok (.iload_n 1, 1) := by decide +kernel
theorem d_R_look_3 : decode b_R_look 3 = .ok (.invokevirtual 116, 3) := by decide +kernel
theorem d_R_look_6 : decode b_R_look 6 = .ok (.ifCond .ne 12, 3) := by decide +kernel
theorem d_R_look_18 : decode b_R_look 18 = .ok (.iconst 1, 1) := by decide +kernel
theorem d_R_look_19 : decode b_R_look 19 = .ok (.goto 4, 3) := by decide +kernel
theorem d_R_look_23 : decode b_R_look 23 = .ok (.iconst 1, 1) := by decide +kernel
theorem d_R_look_24 : decode b_R_look 24 = .ok (.invokevirtual 108, 3) := by decide +kernel
theorem d_R_look_27 : decode b_R_look 27 = .ok (.ifCond .ne 23, 3) := by decide +kernel
theorem d_R_look_50 : decode b_R_look 50 = .ok (.iconst 0, 1) := by decide +kernel
theorem d_R_look_51 : decode b_R_look 51 = .ok (.ireturn, 1) := by decide +kernel
theorem d_R_phi_0 : decode b_R_phi 0 = .ok (.aload_n 0, 1) := by decide +kernel
theorem d_R_phi_1 : decode b_R_phi 1 = .ok (.aload_n 0, 1) := by decide +kernel
theorem d_R_phi_2 : decode b_R_phi 2 = .ok (.getfield 112, 3) := by decide +kernel
theorem d_R_phi_5 : decode b_R_phi 5 = .ok (.ifCond .ne 7, 3) := by decide +kernel
theorem d_R_phi_8 : decode b_R_phi 8 = .ok (.iconst 1, 1) := by decide +kernel
theorem d_R_phi_9 : decode b_R_phi 9 = .ok (.goto 4, 3) := by decide +kernel
theorem d_R_phi_13 : decode b_R_phi 13 = .ok (.iconst 2, 1) := by decide +kernel
theorem d_R_phi_14 : decode b_R_phi 14 = .ok (.invokevirtual 108, 3) := by decide +kernel
theorem d_R_phi_17 : decode b_R_phi 17 = .ok (.ifCond .eq 5, 3) := by decide +kernel
theorem d_R_phi_20 : decode b_R_phi 20 = .ok (.iconst 0, 1) := by decide +kernel
theorem d_R_phi_21 : decode b_R_phi 21 = .ok (.ireturn, 1) := by decide +kernel
theorem d_R_uses_0 : decode b_R_uses 0 = .ok (.aload_n 0, 1) := by decide +kernel
theorem d_R_uses_1 : decode b_R_uses 1 = .ok (.aload_n 0, 1) := by decide +kernel
theorem d_R_uses_2 : decode b_R_uses 2 = .ok (.getfield 112, 3) := by decide +kernel
theorem d_R_uses_5 : decode b_R_uses 5 = .ok (.ifCond .ne 7, 3) := by decide +kernel
theorem d_R_uses_8 : decode b_R_uses 8 = .ok (.iconst 1, 1) := by decide +kernel
theorem d_R_uses_9 : decode b_R_uses 9 = .ok (.goto 4, 3) := by decide +kernel
theorem d_R_uses_13 : decode b_R_uses 13 = .ok (.iconst 2, 1) := by decide +kernel
theorem d_R_uses_14 : decode b_R_uses 14 = .ok (.invokevirtual 108, 3) := by decide +kernel
theorem d_R_uses_17 : decode b_R_uses 17 = .ok (.ifCond .eq 5, 3) := by decide +kernel
theorem d_R_uses_20 : decode b_R_uses 20 = .ok (.iconst 0, 1) := by decide +kernel
theorem d_R_uses_21 : decode b_R_uses 21 = .ok (.ireturn, 1) := by decide +kernel
theorem d_R_name_0 : decode b_R_name 0 = .ok (.aload_n 0, 1) := by decide +kernel
theorem d_R_name_1 : decode b_R_name 1 = .ok (.aload_n 0, 1) := by decide +kernel
theorem d_R_name_2 : decode b_R_name 2 = .ok (.getfield 112, 3) := by decide +kernel
theorem d_R_name_5 : decode b_R_name 5 = .ok (.ifCond .ne 7, 3) := by decide +kernel
theorem d_R_name_8 : decode b_R_name 8 = .ok (.iconst 1, 1) := by decide +kernel
theorem d_R_name_9 : decode b_R_name 9 = .ok (.goto 4, 3) := by decide +kernel
theorem d_R_name_13 : decode b_R_name 13 = .ok (.iconst 2, 1) := by decide +kernel
theorem d_R_name_14 : decode b_R_name 14 = .ok (.invokevirtual 108, 3) := by decide +kernel
theorem d_R_name_17 : decode b_R_name 17 = .ok (.ifCond .eq 5, 3) := by decide +kernel
theorem d_R_name_20 : decode b_R_name 20 = .ok (.iconst 0, 1) := by decide +kernel
theorem d_R_name_21 : decode b_R_name 21 = .ok (.ireturn, 1) := by decide +kernel
theorem d_R_give_0 : decode b_R_give 0 = .ok (.aload_n 0, 1) := by decide +kernel
theorem d_R_give_1 : decode b_R_give 1 = .ok (.iconst 0, 1) := by decide +kernel
theorem d_R_give_2 : decode b_R_give 2 = .ok (.putfield 101, 3) := by decide +kernel
theorem d_R_give_5 : decode b_R_give 5 = .ok (.aload_n 0, 1) := by decide +kernel
theorem d_R_give_6 : decode b_R_give 6 = .ok (.getfield 217, 3) := by decide +kernel
theorem d_R_give_9 : decode b_R_give 9 = .ok (.bipush 16, 2) := by decide +kernel
theorem d_R_give_11 : decode b_R_give 11 = .ok (.if_icmp .ne 5, 3) := by decide +kernel
theorem d_R_give_16 : decode b_R_give 16 = .ok (.aload_n 0, 1) := by decide +kernel
theorem d_R_give_17 : decode b_R_give 17 = .ok (.getfield 89, 3) := by decide +kernel
theorem d_R_give_20 : decode b_R_give 20 = .ok (.aload_n 0, 1) := by decide +kernel
theorem d_R_give_21 : decode b_R_give 21 = .ok (.getfield 217, 3) := by decide +kernel
theorem d_R_give_24 : decode b_R_give 24 = .ok (.iload_n 1, 1) := by decide +kernel
theorem d_R_give_25 : decode b_R_give 25 = .ok (.iastore, 1) := by decide +kernel
theorem d_R_give_26 : decode b_R_give 26 = .ok (.aload_n 0, 1) := by decide +kernel
theorem d_R_give_27 : decode b_R_give 27 = .ok (.dup, 1) := by decide +kernel
theorem d_R_give_28 : decode b_R_give 28 = .ok (.getfield 217, 3) := by decide +kernel
theorem d_R_give_31 : decode b_R_give 31 = .ok (.iconst 1, 1) := by decide +kernel
theorem d_R_give_32 : decode b_R_give 32 = .ok (.iadd, 1) := by decide +kernel
theorem d_R_give_33 : decode b_R_give 33 = .ok (.putfield 217, 3) := by decide +kernel
theorem d_R_give_36 : decode b_R_give 36 = .ok (.iconst 1, 1) := by decide +kernel
theorem d_R_give_37 : decode b_R_give 37 = .ok (.ireturn, 1) := by decide +kernel
theorem d_R_take_0 : decode b_R_take 0 = .ok (.aload_n 0, 1) := by decide +kernel
theorem d_R_take_1 : decode b_R_take 1 = .ok (.iconst 0, 1) := by decide +kernel
theorem d_R_take_2 : decode b_R_take 2 = .ok (.putfield 101, 3) := by decide +kernel
theorem d_R_take_5 : decode b_R_take 5 = .ok (.aload_n 0, 1) := by decide +kernel
theorem d_R_take_6 : decode b_R_take 6 = .ok (.iconst 0, 1) := by decide +kernel
theorem d_R_take_7 : decode b_R_take 7 = .ok (.putfield 217, 3) := by decide +kernel
theorem d_R_take_10 : decode b_R_take 10 = .ok (.return_, 1) := by decide +kernel
theorem d_R_run_0 : decode b_R_run 0 = .ok (.aload_n 0, 1) := by decide +kernel
theorem d_R_run_1 : decode b_R_run 1 = .ok (.iload_n 2, 1) := by decide +kernel
theorem d_R_run_2 : decode b_R_run 2 = .ok (.ifCond .lt 10, 3) := by decide +kernel
theorem d_R_run_5 : decode b_R_run 5 = .ok (.iload_n 2, 1) := by decide +kernel
theorem d_R_run_6 : decode b_R_run 6 = .ok (.sipush 200, 3) := by decide +kernel
theorem d_R_run_9 : decode b_R_run 9 = .ok (.if_icmp .le 7, 3) := by decide +kernel
theorem d_R_run_12 : decode b_R_run 12 = .ok (.iconst 1, 1) := by decide +kernel
theorem d_R_run_13 : decode b_R_run 13 = .ok (.goto 4, 3) := by decide +kernel
theorem d_R_run_16 : decode b_R_run 16 = .ok (.iconst 0, 1) := by decide +kernel
theorem d_R_run_17 : decode b_R_run 17 = .ok (.iconst 1, 1) := by decide +kernel
theorem d_R_run_18 : decode b_R_run 18 = .ok (.invokevirtual 108, 3) := by decide +kernel
theorem d_R_run_21 : decode b_R_run 21 = .ok (.ifCond .ne 23, 3) := by decide +kernel
theorem d_R_run_24 : decode b_R_run 24 = .ok (.aload_n 0, 1) := by decide +kernel
theorem d_R_run_25 : decode b_R_run 25 = .ok (.aload_n 0, 1) := by decide +kernel
theorem d_R_run_26 : decode b_R_run 26 = .ok (.getfield 112, 3) := by decide +kernel
theorem d_R_run_29 : decode b_R_run 29 = .ok (.ifCond .ne 7, 3) := by decide +kernel
theorem d_R_run_32 : decode b_R_run 32 = .ok (.iconst 1, 1) := by decide +kernel
theorem d_R_run_33 : decode b_R_run 33 = .ok (.goto 4, 3) := by decide +kernel
theorem d_R_run_37 : decode b_R_run 37 = .ok (.iconst 2, 1) := by decide +kernel
theorem d_R_run_38 : decode b_R_run 38 = .ok (.invokevirtual 108, 3) := by decide +kernel
theorem d_R_run_41 : decode b_R_run 41 = .ok (.ifCond .eq 5, 3) := by decide +kernel
theorem d_R_run_44 : decode b_R_run 44 = .ok (.iconst 0, 1) := by decide +kernel
theorem d_R_run_45 : decode b_R_run 45 = .ok (.ireturn, 1) := by decide +kernel
theorem d_R_told_0 : decode b_R_told 0 = .ok (.aload_n 0, 1) := by decide +kernel
theorem d_R_told_1 : decode b_R_told 1 = .ok (.iconst 0, 1) := by decide +kernel
theorem d_R_told_2 : decode b_R_told 2 = .ok (.putfield 101, 3) := by decide +kernel
theorem d_R_told_5 : decode b_R_told 5 = .ok (.aload_n 0, 1) := by decide +kernel
theorem d_R_told_6 : decode b_R_told 6 = .ok (.getfield 220, 3) := by decide +kernel
theorem d_R_told_9 : decode b_R_told 9 = .ok (.ireturn, 1) := by decide +kernel
theorem d_R_heard_0 : decode b_R_heard 0 = .ok (.aload_n 0, 1) := by decide +kernel
theorem d_R_heard_1 : decode b_R_heard 1 = .ok (.iload_n 1, 1) := by decide +kernel
theorem d_R_heard_2 : decode b_R_heard 2 = .ok (.ifCond .lt 17, 3) := by decide +kernel
theorem d_R_heard_5 : decode b_R_heard 5 = .ok (.iload_n 1, 1) := by decide +kernel
theorem d_R_heard_6 : decode b_R_heard 6 = .ok (.aload_n 0, 1) := by decide +kernel
theorem d_R_heard_7 : decode b_R_heard 7 = .ok (.getfield 220, 3) := by decide +kernel
theorem d_R_heard_10 : decode b_R_heard 10 = .ok (.if_icmp .ge 9, 3) := by decide +kernel
theorem d_R_heard_19 : decode b_R_heard 19 = .ok (.iconst 1, 1) := by decide +kernel
theorem d_R_heard_20 : decode b_R_heard 20 = .ok (.goto 4, 3) := by decide +kernel
theorem d_R_heard_24 : decode b_R_heard 24 = .ok (.iconst 1, 1) := by decide +kernel
theorem d_R_heard_25 : decode b_R_heard 25 = .ok (.invokevirtual 108, 3) := by decide +kernel
theorem d_R_heard_28 : decode b_R_heard 28 = .ok (.ifCond .eq 7, 3) := by decide +kernel
theorem d_R_heard_31 : decode b_R_heard 31 = .ok (.iconst 0, 1) := by decide +kernel
theorem d_R_heard_32 : decode b_R_heard 32 = .ok (.goto 9, 3) := by decide +kernel
theorem d_R_heard_41 : decode b_R_heard 41 = .ok (.ireturn, 1) := by decide +kernel
theorem d_R_spent_0 : decode b_R_spent 0 = .ok (.aload_n 0, 1) := by decide +kernel
theorem d_R_spent_1 : decode b_R_spent 1 = .ok (.iconst 0, 1) := by decide +kernel
theorem d_R_spent_2 : decode b_R_spent 2 = .ok (.putfield 101, 3) := by decide +kernel
theorem d_R_spent_5 : decode b_R_spent 5 = .ok (.iload_n 1, 1) := by decide +kernel
theorem d_R_spent_6 : decode b_R_spent 6 = .ok (.ifCond .ne 10, 3) := by decide +kernel
theorem d_R_spent_9 : decode b_R_spent 9 = .ok (.aload_n 0, 1) := by decide +kernel
theorem d_R_spent_10 : decode b_R_spent 10 = .ok (.getfield 242, 3) := by decide +kernel
theorem d_R_spent_13 : decode b_R_spent 13 = .ok (.goto 28, 3) := by decide +kernel
theorem d_R_spent_16 : decode b_R_spent 16 = .ok (.iload_n 1, 1) := by decide +kernel
theorem d_R_spent_17 : decode b_R_spent 17 = .ok (.iconst 1, 1) := by decide +kernel
theorem d_R_spent_18 : decode b_R_spent 18 = .ok (.if_icmp .ne 10, 3) := by decide +kernel
theorem d_R_spent_21 : decode b_R_spent 21 = .ok (.aload_n 0, 1) := by decide +kernel
theorem d_R_spent_22 : decode b_R_spent 22 = .ok (.getfield 230, 3) := by decide +kernel
theorem d_R_spent_25 : decode b_R_spent 25 = .ok (.goto 16, 3) := by decide +kernel
theorem d_R_spent_28 : decode b_R_spent 28 = .ok (.iload_n 1, 1) := by decide +kernel
theorem d_R_spent_29 : decode b_R_spent 29 = .ok (.iconst 2, 1) := by decide +kernel
theorem d_R_spent_30 : decode b_R_spent 30 = .ok (.if_icmp .ne 10, 3) := by decide +kernel
theorem d_R_spent_33 : decode b_R_spent 33 = .ok (.aload_n 0, 1) := by decide +kernel
theorem d_R_spent_34 : decode b_R_spent 34 = .ok (.getfield 223, 3) := by decide +kernel
theorem d_R_spent_37 : decode b_R_spent 37 = .ok (.goto 4, 3) := by decide +kernel
theorem d_R_spent_40 : decode b_R_spent 40 = .ok (.iconst (-1), 1) := by decide +kernel
theorem d_R_spent_41 : decode b_R_spent 41 = .ok (.ireturn, 1) := by decide +kernel
theorem d_K_init_0 : decode b_K_init 0 = .ok (.aload_n 0, 1) := by decide +kernel
theorem d_K_init_1 : decode b_K_init 1 = .ok (.invokespecial 3, 3) := by decide +kernel
theorem d_K_init_4 : decode b_K_init 4 = .ok (.aload_n 0, 1) := by decide +kernel
theorem d_K_init_5 : decode b_K_init 5 = .ok (.bipush 10, 2) := by decide +kernel
theorem d_K_init_7 : decode b_K_init 7 = .ok (.newarray .int, 2) := by decide +kernel
theorem d_K_init_9 : decode b_K_init 9 = .ok (.putfield 9, 3) := by decide +kernel
theorem d_K_init_12 : decode b_K_init 12 = .ok (.aload_n 0, 1) := by decide +kernel
theorem d_K_init_13 : decode b_K_init 13 = .ok (.bipush 126, 2) := by decide +kernel
theorem d_K_init_15 : decode b_K_init 15 = .ok (.newarray .int, 2) := by decide +kernel
theorem d_K_init_17 : decode b_K_init 17 = .ok (.putfield 15, 3) := by decide +kernel
theorem d_K_init_20 : decode b_K_init 20 = .ok (.aload_n 0, 1) := by decide +kernel
theorem d_K_init_21 : decode b_K_init 21 = .ok (.bipush 126, 2) := by decide +kernel
theorem d_K_init_23 : decode b_K_init 23 = .ok (.newarray .int, 2) := by decide +kernel
theorem d_K_init_25 : decode b_K_init 25 = .ok (.putfield 18, 3) := by decide +kernel
theorem d_K_init_28 : decode b_K_init 28 = .ok (.aload_n 0, 1) := by decide +kernel
theorem d_K_init_29 : decode b_K_init 29 = .ok (.aload_n 1, 1) := by decide +kernel
theorem d_K_init_30 : decode b_K_init 30 = .ok (.putfield 21, 3) := by decide +kernel
theorem d_K_init_33 : decode b_K_init 33 = .ok (.aload_n 0, 1) := by decide +kernel
theorem d_K_init_34 : decode b_K_init 34 = .ok (.aload_n 2, 1) := by decide +kernel
theorem d_K_init_35 : decode b_K_init 35 = .ok (.putfield 25, 3) := by decide +kernel
theorem d_K_init_38 : decode b_K_init 38 = .ok (.aload_n 0, 1) := by decide +kernel
theorem d_K_init_39 : decode b_K_init 39 = .ok (.aload_n 3, 1) := by decide +kernel
theorem d_K_init_40 : decode b_K_init 40 = .ok (.putfield 29, 3) := by decide +kernel
theorem d_K_init_43 : decode b_K_init 43 = .ok (.return_, 1) := by decide +kernel
theorem d_A_init_0 : decode b_A_init 0 = .ok (.aload_n 0, 1) := by decide +kernel
theorem d_A_init_1 : decode b_A_init 1 = .ok (.invokespecial 3, 3) := by decide +kernel
theorem d_A_init_4 : decode b_A_init 4 = .ok (.aload_n 0, 1) := by decide +kernel
theorem d_A_init_5 : decode b_A_init 5 = .ok (.bipush 16, 2) := by decide +kernel
theorem d_A_init_7 : decode b_A_init 7 = .ok (.newarray .int, 2) := by decide +kernel
theorem d_A_init_9 : decode b_A_init 9 = .ok (.putfield 9, 3) := by decide +kernel
theorem d_A_init_12 : decode b_A_init 12 = .ok (.aload_n 0, 1) := by decide +kernel
theorem d_A_init_13 : decode b_A_init 13 = .ok (.bipush 6, 2) := by decide +kernel
theorem d_A_init_15 : decode b_A_init 15 = .ok (.newarray .int, 2) := by decide +kernel
theorem d_A_init_17 : decode b_A_init 17 = .ok (.putfield 15, 3) := by decide +kernel
theorem d_A_init_20 : decode b_A_init 20 = .ok (.aload_n 0, 1) := by decide +kernel
theorem d_A_init_21 : decode b_A_init 21 = .ok (.bipush 126, 2) := by decide +kernel
theorem d_A_init_23 : decode b_A_init 23 = .ok (.newarray .int, 2) := by decide +kernel
theorem d_A_init_25 : decode b_A_init 25 = .ok (.putfield 18, 3) := by decide +kernel
theorem d_A_init_28 : decode b_A_init 28 = .ok (.aload_n 0, 1) := by decide +kernel
theorem d_A_init_29 : decode b_A_init 29 = .ok (.bipush 6, 2) := by decide +kernel
theorem d_A_init_31 : decode b_A_init 31 = .ok (.newarray .int, 2) := by decide +kernel
theorem d_A_init_33 : decode b_A_init 33 = .ok (.putfield 21, 3) := by decide +kernel
theorem d_A_init_36 : decode b_A_init 36 = .ok (.aload_n 0, 1) := by decide +kernel
theorem d_A_init_37 : decode b_A_init 37 = .ok (.bipush 40, 2) := by decide +kernel
theorem d_A_init_39 : decode b_A_init 39 = .ok (.newarray .int, 2) := by decide +kernel
theorem d_A_init_41 : decode b_A_init 41 = .ok (.putfield 24, 3) := by decide +kernel
theorem d_A_init_44 : decode b_A_init 44 = .ok (.aload_n 0, 1) := by decide +kernel
theorem d_A_init_45 : decode b_A_init 45 = .ok (.aload_n 1, 1) := by decide +kernel
theorem d_A_init_46 : decode b_A_init 46 = .ok (.putfield 27, 3) := by decide +kernel
theorem d_A_init_49 : decode b_A_init 49 = .ok (.aload_n 0, 1) := by decide +kernel
theorem d_A_init_50 : decode b_A_init 50 = .ok (.aload_n 2, 1) := by decide +kernel
theorem d_A_init_51 : decode b_A_init 51 = .ok (.putfield 31, 3) := by decide +kernel
theorem d_A_init_54 : decode b_A_init 54 = .ok (.aload_n 0, 1) := by decide +kernel
theorem d_A_init_55 : decode b_A_init 55 = .ok (.aload_n 3, 1) := by decide +kernel
theorem d_A_init_56 : decode b_A_init 56 = .ok (.putfield 35, 3) := by decide +kernel
theorem d_A_init_59 : decode b_A_init 59 = .ok (.aload_n 0, 1) := by decide +kernel
theorem d_A_init_60 : decode b_A_init 60 = .ok (.aload 4, 2) := by decide +kernel
theorem d_A_init_62 : decode b_A_init 62 = .ok (.putfield 39, 3) := by decide +kernel
theorem d_A_init_65 : decode b_A_init 65 = .ok (.return_, 1) := by decide +kernel
theorem d_A_addInput_0 : decode b_A_addInput 0 = .ok (.aload_n 0, 1) := by decide +kernel
theorem d_A_addInput_1 : decode b_A_addInput 1 = .ok (.getfield 43, 3) := by decide +kernel
theorem d_A_addInput_4 : decode b_A_addInput 4 = .ok (.bipush 16, 2) := by decide +kernel
theorem d_A_addInput_6 : decode b_A_addInput 6 = .ok (.if_icmp .lt 5, 3) := by decide +kernel
theorem d_A_addInput_11 : decode b_A_addInput 11 = .ok (.aload_n 0, 1) := by decide +kernel
theorem d_A_addInput_12 : decode b_A_addInput 12 = .ok (.getfield 9, 3) := by decide +kernel
theorem d_A_addInput_15 : decode b_A_addInput 15 = .ok (.aload_n 0, 1) := by decide +kernel
theorem d_A_addInput_16 : decode b_A_addInput 16 = .ok (.getfield 43, 3) := by decide +kernel
theorem d_A_addInput_19 : decode b_A_addInput 19 = .ok (.iload_n 1, 1) := by decide +kernel
theorem d_A_addInput_20 : decode b_A_addInput 20 = .ok (.iastore, 1) := by decide +kernel
theorem d_A_addInput_21 : decode b_A_addInput 21 = .ok (.aload_n 0, 1) := by decide +kernel
theorem d_A_addInput_22 : decode b_A_addInput 22 = .ok (.dup, 1) := by decide +kernel
theorem d_A_addInput_23 : decode b_A_addInput 23 = .ok (.getfield 43, 3) := by decide +kernel
theorem d_A_addInput_26 : decode b_A_addInput 26 = .ok (.iconst 1, 1) := by decide +kernel
theorem d_A_addInput_27 : decode b_A_addInput 27 = .ok (.iadd, 1) := by decide +kernel
theorem d_A_addInput_28 : decode b_A_addInput 28 = .ok (.putfield 43, 3) := by decide +kernel
theorem d_A_addInput_31 : decode b_A_addInput 31 = .ok (.iconst 1, 1) := by decide +kernel
theorem d_A_addInput_32 : decode b_A_addInput 32 = .ok (.ireturn, 1) := by decide +kernel
theorem d_G_init_0 : decode b_G_init 0 = .ok (.aload_n 0, 1) := by decide +kernel
theorem d_G_init_1 : decode b_G_init 1 = .ok (.invokespecial 3, 3) := by decide +kernel
theorem d_G_init_4 : decode b_G_init 4 = .ok (.aload_n 0, 1) := by decide +kernel
theorem d_G_init_5 : decode b_G_init 5 = .ok (.bipush 10, 2) := by decide +kernel
theorem d_G_init_7 : decode b_G_init 7 = .ok (.newarray .int, 2) := by decide +kernel
theorem d_G_init_9 : decode b_G_init 9 = .ok (.putfield 9, 3) := by decide +kernel
theorem d_G_init_12 : decode b_G_init 12 = .ok (.aload_n 0, 1) := by decide +kernel
theorem d_G_init_13 : decode b_G_init 13 = .ok (.bipush 10, 2) := by decide +kernel
theorem d_G_init_15 : decode b_G_init 15 = .ok (.newarray .int, 2) := by decide +kernel
theorem d_G_init_17 : decode b_G_init 17 = .ok (.putfield 15, 3) := by decide +kernel
theorem d_G_init_20 : decode b_G_init 20 = .ok (.aload_n 0, 1) := by decide +kernel
theorem d_G_init_21 : decode b_G_init 21 = .ok (.bipush 10, 2) := by decide +kernel
theorem d_G_init_23 : decode b_G_init 23 = .ok (.bipush 6, 2) := by decide +kernel
theorem d_G_init_25 : decode b_G_init 25 = .ok (.multianewarray 18 2, 4) := by decide +kernel
theorem d_G_init_29 : decode b_G_init 29 = .ok (.putfield 20, 3) := by decide +kernel
theorem d_G_init_32 : decode b_G_init 32 = .ok (.aload_n 0, 1) := by decide +kernel
theorem d_G_init_33 : decode b_G_init 33 = .ok (.bipush 10, 2) := by decide +kernel
theorem d_G_init_35 : decode b_G_init 35 = .ok (.bipush 6, 2) := by decide +kernel
theorem d_G_init_37 : decode b_G_init 37 = .ok (.multianewarray 18 2, 4) := by decide +kernel
theorem d_G_init_41 : decode b_G_init 41 = .ok (.putfield 23, 3) := by decide +kernel
theorem d_G_init_44 : decode b_G_init 44 = .ok (.aload_n 0, 1) := by decide +kernel
theorem d_G_init_45 : decode b_G_init 45 = .ok (.bipush 10, 2) := by decide +kernel
theorem d_G_init_47 : decode b_G_init 47 = .ok (.bipush 6, 2) := by decide +kernel
theorem d_G_init_49 : decode b_G_init 49 = .ok (.multianewarray 18 2, 4) := by decide +kernel
theorem d_G_init_53 : decode b_G_init 53 = .ok (.putfield 26, 3) := by decide +kernel
theorem d_G_init_56 : decode b_G_init 56 = .ok (.aload_n 0, 1) := by decide +kernel
theorem d_G_init_57 : decode b_G_init 57 = .ok (.bipush 10, 2) := by decide +kernel
theorem d_G_init_59 : decode b_G_init 59 = .ok (.bipush 6, 2) := by decide +kernel
theorem d_G_init_61 : decode b_G_init 61 = .ok (.multianewarray 18 2, 4) := by decide +kernel
theorem d_G_init_65 : decode b_G_init 65 = .ok (.putfield 29, 3) := by decide +kernel
theorem d_G_init_68 : decode b_G_init 68 = .ok (.aload_n 0, 1) := by decide +kernel
theorem d_G_init_69 : decode b_G_init 69 = .ok (.bipush 10, 2) := by decide +kernel
theorem d_G_init_71 : decode b_G_init 71 = .ok (.bipush 6, 2) := by decide +kernel
theorem d_G_init_73 : decode b_G_init 73 = .ok (.multianewarray 18 2, 4) := by decide +kernel
theorem d_G_init_77 : decode b_G_init 77 = .ok (.putfield 32, 3) := by decide +kernel
theorem d_G_init_80 : decode b_G_init 80 = .ok (.aload_n 0, 1) := by decide +kernel
theorem d_G_init_81 : decode b_G_init 81 = .ok (.bipush 10, 2) := by decide +kernel
theorem d_G_init_83 : decode b_G_init 83 = .ok (.newarray .int, 2) := by decide +kernel
theorem d_G_init_85 : decode b_G_init 85 = .ok (.putfield 35, 3) := by decide +kernel
theorem d_G_init_88 : decode b_G_init 88 = .ok (.aload_n 0, 1) := by decide +kernel
theorem d_G_init_89 : decode b_G_init 89 = .ok (.bipush 126, 2) := by decide +kernel
theorem d_G_init_91 : decode b_G_init 91 = .ok (.newarray .int, 2) := by decide +kernel
theorem d_G_init_93 : decode b_G_init 93 = .ok (.putfield 38, 3) := by decide +kernel
theorem d_G_init_96 : decode b_G_init 96 = .ok (.aload_n 0, 1) := by decide +kernel
theorem d_G_init_97 : decode b_G_init 97 = .ok (.bipush 126, 2) := by decide +kernel
theorem d_G_init_99 : decode b_G_init 99 = .ok (.newarray .int, 2) := by decide +kernel
theorem d_G_init_101 : decode b_G_init 101 = .ok (.putfield 41, 3) := by decide +kernel
theorem d_G_init_104 : decode b_G_init 104 = .ok (.aload_n 0, 1) := by decide +kernel
theorem d_G_init_105 : decode b_G_init 105 = .ok (.bipush 126, 2) := by decide +kernel
theorem d_G_init_107 : decode b_G_init 107 = .ok (.newarray .int, 2) := by decide +kernel
theorem d_G_init_109 : decode b_G_init 109 = .ok (.putfield 44, 3) := by decide +kernel
theorem d_G_init_112 : decode b_G_init 112 = .ok (.aload_n 0, 1) := by decide +kernel
theorem d_G_init_113 : decode b_G_init 113 = .ok (.aload_n 1, 1) := by decide +kernel
theorem d_G_init_114 : decode b_G_init 114 = .ok (.putfield 47, 3) := by decide +kernel
theorem d_G_init_117 : decode b_G_init 117 = .ok (.aload_n 0, 1) := by decide +kernel
theorem d_G_init_118 : decode b_G_init 118 = .ok (.aload_n 2, 1) := by decide +kernel
theorem d_G_init_119 : decode b_G_init 119 = .ok (.putfield 51, 3) := by decide +kernel
theorem d_G_init_122 : decode b_G_init 122 = .ok (.return_, 1) := by decide +kernel
theorem d_D_init_0 : decode b_D_init 0 = .ok (.aload_n 0, 1) := by decide +kernel
theorem d_D_init_1 : decode b_D_init 1 = .ok (.invokespecial 3, 3) := by decide +kernel
theorem d_D_init_4 : decode b_D_init 4 = .ok (.aload_n 0, 1) := by decide +kernel
theorem d_D_init_5 : decode b_D_init 5 = .ok (.bipush 126, 2) := by decide +kernel
theorem d_D_init_7 : decode b_D_init 7 = .ok (.newarray .boolean, 2) := by decide +kernel
theorem d_D_init_9 : decode b_D_init 9 = .ok (.putfield 9, 3) := by decide +kernel
theorem d_D_init_12 : decode b_D_init 12 = .ok (.aload_n 0, 1) := by decide +kernel
theorem d_D_init_13 : decode b_D_init 13 = .ok (.bipush 126, 2) := by decide +kernel
theorem d_D_init_15 : decode b_D_init 15 = .ok (.newarray .int, 2) := by decide +kernel
theorem d_D_init_17 : decode b_D_init 17 = .ok (.putfield 15, 3) := by decide +kernel
theorem d_D_init_20 : decode b_D_init 20 = .ok (.aload_n 0, 1) := by decide +kernel
theorem d_D_init_21 : decode b_D_init 21 = .ok (.aload_n 1, 1) := by decide +kernel
theorem d_D_init_22 : decode b_D_init 22 = .ok (.putfield 19, 3) := by decide +kernel
theorem d_D_init_25 : decode b_D_init 25 = .ok (.aload_n 0, 1) := by decide +kernel
theorem d_D_init_26 : decode b_D_init 26 = .ok (.aload_n 2, 1) := by decide +kernel
theorem d_D_init_27 : decode b_D_init 27 = .ok (.putfield 23, 3) := by decide +kernel
theorem d_D_init_30 : decode b_D_init 30 = .ok (.aload_n 0, 1) := by decide +kernel
theorem d_D_init_31 : decode b_D_init 31 = .ok (.aload_n 3, 1) := by decide +kernel
theorem d_D_init_32 : decode b_D_init 32 = .ok (.putfield 27, 3) := by decide +kernel
theorem d_D_init_35 : decode b_D_init 35 = .ok (.return_, 1) := by decide +kernel
theorem d_P_init_0 : decode b_P_init 0 = .ok (.aload_n 0, 1) := by decide +kernel
theorem d_P_init_1 : decode b_P_init 1 = .ok (.invokespecial 3, 3) := by decide +kernel
theorem d_P_init_4 : decode b_P_init 4 = .ok (.aload_n 0, 1) := by decide +kernel
theorem d_P_init_5 : decode b_P_init 5 = .ok (.bipush 10, 2) := by decide +kernel
theorem d_P_init_7 : decode b_P_init 7 = .ok (.newarray .int, 2) := by decide +kernel
theorem d_P_init_9 : decode b_P_init 9 = .ok (.putfield 9, 3) := by decide +kernel
theorem d_P_init_12 : decode b_P_init 12 = .ok (.aload_n 0, 1) := by decide +kernel
theorem d_P_init_13 : decode b_P_init 13 = .ok (.bipush 10, 2) := by decide +kernel
theorem d_P_init_15 : decode b_P_init 15 = .ok (.bipush 6, 2) := by decide +kernel
theorem d_P_init_17 : decode b_P_init 17 = .ok (.multianewarray 15 2, 4) := by decide +kernel
theorem d_P_init_21 : decode b_P_init 21 = .ok (.putfield 17, 3) := by decide +kernel
theorem d_P_init_24 : decode b_P_init 24 = .ok (.aload_n 0, 1) := by decide +kernel
theorem d_P_init_25 : decode b_P_init 25 = .ok (.bipush 10, 2) := by decide +kernel
theorem d_P_init_27 : decode b_P_init 27 = .ok (.bipush 6, 2) := by decide +kernel
theorem d_P_init_29 : decode b_P_init 29 = .ok (.multianewarray 15 2, 4) := by decide +kernel
theorem d_P_init_33 : decode b_P_init 33 = .ok (.putfield 20, 3) := by decide +kernel
theorem d_P_init_36 : decode b_P_init 36 = .ok (.aload_n 0, 1) := by decide +kernel
theorem d_P_init_37 : decode b_P_init 37 = .ok (.bipush 10, 2) := by decide +kernel
theorem d_P_init_39 : decode b_P_init 39 = .ok (.bipush 6, 2) := by decide +kernel
theorem d_P_init_41 : decode b_P_init 41 = .ok (.multianewarray 15 2, 4) := by decide +kernel
theorem d_P_init_45 : decode b_P_init 45 = .ok (.putfield 23, 3) := by decide +kernel
theorem d_P_init_48 : decode b_P_init 48 = .ok (.aload_n 0, 1) := by decide +kernel
theorem d_P_init_49 : decode b_P_init 49 = .ok (.bipush 10, 2) := by decide +kernel
theorem d_P_init_51 : decode b_P_init 51 = .ok (.bipush 6, 2) := by decide +kernel
theorem d_P_init_53 : decode b_P_init 53 = .ok (.multianewarray 15 2, 4) := by decide +kernel
theorem d_P_init_57 : decode b_P_init 57 = .ok (.putfield 26, 3) := by decide +kernel
theorem d_P_init_60 : decode b_P_init 60 = .ok (.aload_n 0, 1) := by decide +kernel
theorem d_P_init_61 : decode b_P_init 61 = .ok (.bipush 10, 2) := by decide +kernel
theorem d_P_init_63 : decode b_P_init 63 = .ok (.newarray .int, 2) := by decide +kernel
theorem d_P_init_65 : decode b_P_init 65 = .ok (.putfield 29, 3) := by decide +kernel
theorem d_P_init_68 : decode b_P_init 68 = .ok (.aload_n 0, 1) := by decide +kernel
theorem d_P_init_69 : decode b_P_init 69 = .ok (.bipush 10, 2) := by decide +kernel
theorem d_P_init_71 : decode b_P_init 71 = .ok (.newarray .int, 2) := by decide +kernel
theorem d_P_init_73 : decode b_P_init 73 = .ok (.putfield 32, 3) := by decide +kernel
theorem d_P_init_76 : decode b_P_init 76 = .ok (.aload_n 0, 1) := by decide +kernel
theorem d_P_init_77 : decode b_P_init 77 = .ok (.bipush 10, 2) := by decide +kernel
theorem d_P_init_79 : decode b_P_init 79 = .ok (.newarray .int, 2) := by decide +kernel
theorem d_P_init_81 : decode b_P_init 81 = .ok (.putfield 35, 3) := by decide +kernel
theorem d_P_init_84 : decode b_P_init 84 = .ok (.aload_n 0, 1) := by decide +kernel
theorem d_P_init_85 : decode b_P_init 85 = .ok (.bipush 10, 2) := by decide +kernel
theorem d_P_init_87 : decode b_P_init 87 = .ok (.newarray .int, 2) := by decide +kernel
theorem d_P_init_89 : decode b_P_init 89 = .ok (.putfield 38, 3) := by decide +kernel
theorem d_P_init_92 : decode b_P_init 92 = .ok (.return_, 1) := by decide +kernel
theorem d_P_has_0 : decode b_P_has 0 = .ok (.iload_n 1, 1) := by decide +kernel
theorem d_P_has_1 : decode b_P_has 1 = .ok (.ifCond .lt 15, 3) := by decide +kernel
theorem d_P_has_4 : decode b_P_has 4 = .ok (.iload_n 1, 1) := by decide +kernel
theorem d_P_has_5 : decode b_P_has 5 = .ok (.aload_n 0, 1) := by decide +kernel
theorem d_P_has_6 : decode b_P_has 6 = .ok (.getfield 41, 3) := by decide +kernel
theorem d_P_has_9 : decode b_P_has 9 = .ok (.if_icmp .ge 7, 3) := by decide +kernel
theorem d_P_has_16 : decode b_P_has 16 = .ok (.iconst 0, 1) := by decide +kernel
theorem d_P_has_17 : decode b_P_has 17 = .ok (.ireturn, 1) := by decide +kernel
theorem d_P_addBlock_0 : decode b_P_addBlock 0 = .ok (.aload_n 0, 1) := by decide +kernel
theorem d_P_addBlock_1 : decode b_P_addBlock 1 = .ok (.getfield 41, 3) := by decide +kernel
theorem d_P_addBlock_4 : decode b_P_addBlock 4 = .ok (.istore_n 1, 1) := by decide +kernel
theorem d_P_addBlock_5 : decode b_P_addBlock 5 = .ok (.aload_n 0, 1) := by decide +kernel
theorem d_P_addBlock_6 : decode b_P_addBlock 6 = .ok (.getfield 9, 3) := by decide +kernel
theorem d_P_addBlock_9 : decode b_P_addBlock 9 = .ok (.iload_n 1, 1) := by decide +kernel
theorem d_P_addBlock_10 : decode b_P_addBlock 10 = .ok (.iconst 0, 1) := by decide +kernel
theorem d_P_addBlock_11 : decode b_P_addBlock 11 = .ok (.iastore, 1) := by decide +kernel
theorem d_P_addBlock_12 : decode b_P_addBlock 12 = .ok (.aload_n 0, 1) := by decide +kernel
theorem d_P_addBlock_13 : decode b_P_addBlock 13 = .ok (.iload_n 1, 1) := by decide +kernel
theorem d_P_addBlock_14 : decode b_P_addBlock 14 = .ok (.iconst 0, 1) := by decide +kernel
theorem d_P_addBlock_15 : decode b_P_addBlock 15 = .ok (.iconst 0, 1) := by decide +kernel
theorem d_P_addBlock_16 : decode b_P_addBlock 16 = .ok (.iconst 0, 1) := by decide +kernel
theorem d_P_addBlock_17 : decode b_P_addBlock 17 = .ok (.iconst 0, 1) := by decide +kernel
theorem d_P_addBlock_18 : decode b_P_addBlock 18 = .ok (.invokevirtual 49, 3) := by decide +kernel
theorem d_P_addBlock_21 : decode b_P_addBlock 21 = .ok (.aload_n 0, 1) := by decide +kernel
theorem d_P_addBlock_22 : decode b_P_addBlock 22 = .ok (.dup, 1) := by decide +kernel
theorem d_P_addBlock_23 : decode b_P_addBlock 23 = .ok (.getfield 41, 3) := by decide +kernel
theorem d_P_addBlock_26 : decode b_P_addBlock 26 = .ok (.iconst 1, 1) := by decide +kernel
theorem d_P_addBlock_27 : decode b_P_addBlock 27 = .ok (.iadd, 1) := by decide +kernel
theorem d_P_addBlock_28 : decode b_P_addBlock 28 = .ok (.putfield 41, 3) := by decide +kernel
theorem d_P_addBlock_31 : decode b_P_addBlock 31 = .ok (.iload_n 1, 1) := by decide +kernel
theorem d_P_addBlock_32 : decode b_P_addBlock 32 = .ok (.ireturn, 1) := by decide +kernel
theorem d_P_setEnd_0 : decode b_P_setEnd 0 = .ok (.aload_n 0, 1) := by decide +kernel
theorem d_P_setEnd_1 : decode b_P_setEnd 1 = .ok (.getfield 29, 3) := by decide +kernel
theorem d_P_setEnd_4 : decode b_P_setEnd 4 = .ok (.iload_n 1, 1) := by decide +kernel
theorem d_P_setEnd_5 : decode b_P_setEnd 5 = .ok (.iload_n 2, 1) := by decide +kernel
theorem d_P_setEnd_6 : decode b_P_setEnd 6 = .ok (.iastore, 1) := by decide +kernel
theorem d_P_setEnd_7 : decode b_P_setEnd 7 = .ok (.aload_n 0, 1) := by decide +kernel
theorem d_P_setEnd_8 : decode b_P_setEnd 8 = .ok (.getfield 32, 3) := by decide +kernel
theorem d_P_setEnd_11 : decode b_P_setEnd 11 = .ok (.iload_n 1, 1) := by decide +kernel
theorem d_P_setEnd_12 : decode b_P_setEnd 12 = .ok (.iload_n 3, 1) := by decide +kernel
theorem d_P_setEnd_13 : decode b_P_setEnd 13 = .ok (.iastore, 1) := by decide +kernel
theorem d_P_setEnd_14 : decode b_P_setEnd 14 = .ok (.aload_n 0, 1) := by decide +kernel
theorem d_P_setEnd_15 : decode b_P_setEnd 15 = .ok (.getfield 35, 3) := by decide +kernel
theorem d_P_setEnd_18 : decode b_P_setEnd 18 = .ok (.iload_n 1, 1) := by decide +kernel
theorem d_P_setEnd_19 : decode b_P_setEnd 19 = .ok (.iload 4, 2) := by decide +kernel
theorem d_P_setEnd_21 : decode b_P_setEnd 21 = .ok (.iastore, 1) := by decide +kernel
theorem d_P_setEnd_22 : decode b_P_setEnd 22 = .ok (.aload_n 0, 1) := by decide +kernel
theorem d_P_setEnd_23 : decode b_P_setEnd 23 = .ok (.getfield 38, 3) := by decide +kernel
theorem d_P_setEnd_26 : decode b_P_setEnd 26 = .ok (.iload_n 1, 1) := by decide +kernel
theorem d_P_setEnd_27 : decode b_P_setEnd 27 = .ok (.iload 5, 2) := by decide +kernel
theorem d_P_setEnd_29 : decode b_P_setEnd 29 = .ok (.iastore, 1) := by decide +kernel
theorem d_P_setEnd_30 : decode b_P_setEnd 30 = .ok (.return_, 1) := by decide +kernel
theorem d_S_init_0 : decode b_S_init 0 = .ok (.aload_n 0, 1) := by decide +kernel
theorem d_S_init_1 : decode b_S_init 1 = .ok (.invokespecial 3, 3) := by decide +kernel
theorem d_S_init_4 : decode b_S_init 4 = .ok (.aload_n 0, 1) := by decide +kernel
theorem d_S_init_5 : decode b_S_init 5 = .ok (.bipush 10, 2) := by decide +kernel
theorem d_S_init_7 : decode b_S_init 7 = .ok (.newarray .int, 2) := by decide +kernel
theorem d_S_init_9 : decode b_S_init 9 = .ok (.putfield 9, 3) := by decide +kernel
theorem d_S_init_12 : decode b_S_init 12 = .ok (.aload_n 0, 1) := by decide +kernel
theorem d_S_init_13 : decode b_S_init 13 = .ok (.bipush 10, 2) := by decide +kernel
theorem d_S_init_15 : decode b_S_init 15 = .ok (.newarray .int, 2) := by decide +kernel
theorem d_S_init_17 : decode b_S_init 17 = .ok (.putfield 15, 3) := by decide +kernel
theorem d_S_init_20 : decode b_S_init 20 = .ok (.aload_n 0, 1) := by decide +kernel
theorem d_S_init_21 : decode b_S_init 21 = .ok (.bipush 10, 2) := by decide +kernel
theorem d_S_init_23 : decode b_S_init 23 = .ok (.newarray .int, 2) := by decide +kernel
theorem d_S_init_25 : decode b_S_init 25 = .ok (.putfield 18, 3) := by decide +kernel
theorem d_S_init_28 : decode b_S_init 28 = .ok (.aload_n 0, 1) := by decide +kernel
theorem d_S_init_29 : decode b_S_init 29 = .ok (.bipush 10, 2) := by decide +kernel
theorem d_S_init_31 : decode b_S_init 31 = .ok (.newarray .int, 2) := by decide +kernel
theorem d_S_init_33 : decode b_S_init 33 = .ok (.putfield 21, 3) := by decide +kernel
theorem d_S_init_36 : decode b_S_init 36 = .ok (.aload_n 0, 1) := by decide +kernel
theorem d_S_init_37 : decode b_S_init 37 = .ok (.bipush 10, 2) := by decide +kernel
theorem d_S_init_39 : decode b_S_init 39 = .ok (.newarray .int, 2) := by decide +kernel
theorem d_S_init_41 : decode b_S_init 41 = .ok (.putfield 24, 3) := by decide +kernel
theorem d_S_init_44 : decode b_S_init 44 = .ok (.aload_n 0, 1) := by decide +kernel
theorem d_S_init_45 : decode b_S_init 45 = .ok (.bipush 10, 2) := by decide +kernel
theorem d_S_init_47 : decode b_S_init 47 = .ok (.newarray .int, 2) := by decide +kernel
theorem d_S_init_49 : decode b_S_init 49 = .ok (.putfield 27, 3) := by decide +kernel
theorem d_S_init_52 : decode b_S_init 52 = .ok (.aload_n 0, 1) := by decide +kernel
theorem d_S_init_53 : decode b_S_init 53 = .ok (.aload_n 1, 1) := by decide +kernel
theorem d_S_init_54 : decode b_S_init 54 = .ok (.putfield 30, 3) := by decide +kernel
theorem d_S_init_57 : decode b_S_init 57 = .ok (.return_, 1) := by decide +kernel
theorem d_L_block_0 : decode b_L_block 0 = .ok (.aload_n 1, 1) := by decide +kernel
theorem d_L_block_1 : decode b_L_block 1 = .ok (.iconst 0, 1) := by decide +kernel
theorem d_L_block_2 : decode b_L_block 2 = .ok (.aload_n 0, 1) := by decide +kernel
theorem d_L_block_3 : decode b_L_block 3 = .ok (.invokevirtual 7, 3) := by decide +kernel
theorem d_L_block_6 : decode b_L_block 6 = .ok (.i2l, 1) := by decide +kernel
theorem d_L_block_7 : decode b_L_block 7 = .ok (.lastore, 1) := by decide +kernel
theorem d_L_block_8 : decode b_L_block 8 = .ok (.goto 6, 3) := by decide +kernel
theorem d_L_block_14 : decode b_L_block 14 = .ok (.iconst 0, 1) := by decide +kernel
theorem d_L_block_15 : decode b_L_block 15 = .ok (.ireturn, 1) := by decide +kernel
theorem d_L_put_0 : decode b_L_put 0 = .ok (.aload 6, 2) := by decide +kernel
theorem d_L_put_2 : decode b_L_put 2 = .ok (.iconst 0, 1) := by decide +kernel
theorem d_L_put_3 : decode b_L_put 3 = .ok (.aload_n 0, 1) := by decide +kernel
theorem d_L_put_4 : decode b_L_put 4 = .ok (.iload_n 1, 1) := by decide +kernel
theorem d_L_put_5 : decode b_L_put 5 = .ok (.iload_n 2, 1) := by decide +kernel
theorem d_L_put_6 : decode b_L_put 6 = .ok (.iload_n 3, 1) := by decide +kernel
theorem d_L_put_7 : decode b_L_put 7 = .ok (.iload 4, 2) := by decide +kernel
theorem d_L_put_9 : decode b_L_put 9 = .ok (.iload 5, 2) := by decide +kernel
theorem d_L_put_11 : decode b_L_put 11 = .ok (.invokevirtual 15, 3) := by decide +kernel
theorem d_L_put_19 : decode b_L_put 19 = .ok (.astore 7, 2) := by decide +kernel
theorem d_L_put_21 : decode b_L_put 21 = .ok (.iconst 1, 1) := by decide +kernel
theorem d_L_put_22 : decode b_L_put 22 = .ok (.ireturn, 1) := by decide +kernel
theorem d_L_go_0 : decode b_L_go 0 = .ok (.aload_n 0, 1) := by decide +kernel
theorem d_L_go_1 : decode b_L_go 1 = .ok (.iload_n 1, 1) := by decide +kernel
theorem d_L_go_2 : decode b_L_go 2 = .ok (.iload_n 2, 1) := by decide +kernel
theorem d_L_go_3 : decode b_L_go 3 = .ok (.invokevirtual 21, 3) := by decide +kernel
theorem d_L_go_9 : decode b_L_go 9 = .ok (.astore_n 3, 1) := by decide +kernel
theorem d_L_go_10 : decode b_L_go 10 = .ok (.iconst 1, 1) := by decide +kernel
theorem d_L_go_11 : decode b_L_go 11 = .ok (.ireturn, 1) := by decide +kernel
theorem d_L_fork_0 : decode b_L_fork 0 = .ok (.aload_n 0, 1) := by decide +kernel
theorem d_L_fork_1 : decode b_L_fork 1 = .ok (.iload_n 1, 1) := by decide +kernel
theorem d_L_fork_2 : decode b_L_fork 2 = .ok (.iload_n 2, 1) := by decide +kernel
theorem d_L_fork_3 : decode b_L_fork 3 = .ok (.iload_n 3, 1) := by decide +kernel
theorem d_L_fork_4 : decode b_L_fork 4 = .ok (.iload 4, 2) := by decide +kernel
theorem d_L_fork_6 : decode b_L_fork 6 = .ok (.invokevirtual 25, 3) := by decide +kernel
theorem d_L_fork_12 : decode b_L_fork 12 = .ok (.astore 5, 2) := by decide +kernel
theorem d_L_fork_14 : decode b_L_fork 14 = .ok (.iconst 1, 1) := by decide +kernel
theorem d_L_fork_15 : decode b_L_fork 15 = .ok (.ireturn, 1) := by decide +kernel
theorem d_L_stop_0 : decode b_L_stop 0 = .ok (.aload_n 0, 1) := by decide +kernel
theorem d_L_stop_1 : decode b_L_stop 1 = .ok (.iload_n 1, 1) := by decide +kernel
theorem d_L_stop_2 : decode b_L_stop 2 = .ok (.invokevirtual 29, 3) := by decide +kernel
theorem d_L_stop_8 : decode b_L_stop 8 = .ok (.astore_n 2, 1) := by decide +kernel
theorem d_L_stop_9 : decode b_L_stop 9 = .ok (.iconst 1, 1) := by decide +kernel
theorem d_L_stop_10 : decode b_L_stop 10 = .ok (.ireturn, 1) := by decide +kernel
theorem d_L_build_0 : decode b_L_build 0 = .ok (.aload_n 1, 1) := by decide +kernel
theorem d_L_build_1 : decode b_L_build 1 = .ok (.iconst 0, 1) := by decide +kernel
theorem d_L_build_2 : decode b_L_build 2 = .ok (.aload_n 0, 1) := by decide +kernel
theorem d_L_build_3 : decode b_L_build 3 = .ok (.invokevirtual 33, 3) := by decide +kernel
theorem d_L_build_11 : decode b_L_build 11 = .ok (.astore_n 2, 1) := by decide +kernel
theorem d_L_build_12 : decode b_L_build 12 = .ok (.iconst 1, 1) := by decide +kernel
theorem d_L_build_13 : decode b_L_build 13 = .ok (.ireturn, 1) := by decide +kernel
theorem d_L_look_0 : decode b_L_look 0 = .ok (.aload_n 3, 1) := by decide +kernel
theorem d_L_look_1 : decode b_L_look 1 = .ok (.iconst 0, 1) := by decide +kernel
theorem d_L_look_2 : decode b_L_look 2 = .ok (.aload_n 0, 1) := by decide +kernel
theorem d_L_look_3 : decode b_L_look 3 = .ok (.iload_n 1, 1) := by decide +kernel
theorem d_L_look_4 : decode b_L_look 4 = .ok (.iload_n 2, 1) := by decide +kernel
theorem d_L_look_5 : decode b_L_look 5 = .ok (.invokevirtual 36, 3) := by decide +kernel
theorem d_L_look_13 : decode b_L_look 13 = .ok (.astore 4, 2) := by decide +kernel
theorem d_L_look_15 : decode b_L_look 15 = .ok (.iconst 1, 1) := by decide +kernel
theorem d_L_look_16 : decode b_L_look 16 = .ok (.ireturn, 1) := by decide +kernel
theorem d_L_phi_0 : decode b_L_phi 0 = .ok (.aload 4, 2) := by decide +kernel
theorem d_L_phi_2 : decode b_L_phi 2 = .ok (.iconst 0, 1) := by decide +kernel
theorem d_L_phi_3 : decode b_L_phi 3 = .ok (.aload_n 0, 1) := by decide +kernel
theorem d_L_phi_4 : decode b_L_phi 4 = .ok (.iload_n 1, 1) := by decide +kernel
theorem d_L_phi_5 : decode b_L_phi 5 = .ok (.iload_n 2, 1) := by decide +kernel
theorem d_L_phi_6 : decode b_L_phi 6 = .ok (.iload_n 3, 1) := by decide +kernel
theorem d_L_phi_7 : decode b_L_phi 7 = .ok (.invokevirtual 42, 3) := by decide +kernel
theorem d_L_phi_19 : decode b_L_phi 19 = .ok (.astore 5, 2) := by decide +kernel
theorem d_L_phi_21 : decode b_L_phi 21 = .ok (.iconst 2, 1) := by decide +kernel
theorem d_L_phi_22 : decode b_L_phi 22 = .ok (.ireturn, 1) := by decide +kernel
theorem d_L_uses_0 : decode b_L_uses 0 = .ok (.aload 4, 2) := by decide +kernel
theorem d_L_uses_2 : decode b_L_uses 2 = .ok (.iconst 0, 1) := by decide +kernel
theorem d_L_uses_3 : decode b_L_uses 3 = .ok (.aload_n 0, 1) := by decide +kernel
theorem d_L_uses_4 : decode b_L_uses 4 = .ok (.iload_n 1, 1) := by decide +kernel
theorem d_L_uses_5 : decode b_L_uses 5 = .ok (.iload_n 2, 1) := by decide +kernel
theorem d_L_uses_6 : decode b_L_uses 6 = .ok (.iload_n 3, 1) := by decide +kernel
theorem d_L_uses_7 : decode b_L_uses 7 = .ok (.invokevirtual 46, 3) := by decide +kernel
theorem d_L_uses_19 : decode b_L_uses 19 = .ok (.astore 5, 2) := by decide +kernel
theorem d_L_uses_21 : decode b_L_uses 21 = .ok (.iconst 2, 1) := by decide +kernel
theorem d_L_uses_22 : decode b_L_uses 22 = .ok (.ireturn, 1) := by decide +kernel
theorem d_L_name_0 : decode b_L_name 0 = .ok (.aload_n 3, 1) := by decide +kernel
theorem d_L_name_1 : decode b_L_name 1 = .ok (.iconst 0, 1) := by decide +kernel
theorem d_L_name_2 : decode b_L_name 2 = .ok (.aload_n 0, 1) := by decide +kernel
theorem d_L_name_3 : decode b_L_name 3 = .ok (.iload_n 1, 1) := by decide +kernel
theorem d_L_name_4 : decode b_L_name 4 = .ok (.iload_n 2, 1) := by decide +kernel
theorem d_L_name_5 : decode b_L_name 5 = .ok (.invokevirtual 49, 3) := by decide +kernel
theorem d_L_name_17 : decode b_L_name 17 = .ok (.astore 4, 2) := by decide +kernel
theorem d_L_name_19 : decode b_L_name 19 = .ok (.iconst 2, 1) := by decide +kernel
theorem d_L_name_20 : decode b_L_name 20 = .ok (.ireturn, 1) := by decide +kernel
theorem d_L_run_0 : decode b_L_run 0 = .ok (.aload_n 3, 1) := by decide +kernel
theorem d_L_run_1 : decode b_L_run 1 = .ok (.iconst 0, 1) := by decide +kernel
theorem d_L_run_2 : decode b_L_run 2 = .ok (.aload_n 0, 1) := by decide +kernel
theorem d_L_run_3 : decode b_L_run 3 = .ok (.iload_n 1, 1) := by decide +kernel
theorem d_L_run_4 : decode b_L_run 4 = .ok (.iload_n 2, 1) := by decide +kernel
theorem d_L_run_5 : decode b_L_run 5 = .ok (.invokevirtual 52, 3) := by decide +kernel
theorem d_L_run_13 : decode b_L_run 13 = .ok (.astore 4, 2) := by decide +kernel
theorem d_L_run_15 : decode b_L_run 15 = .ok (.iconst 1, 1) := by decide +kernel
theorem d_L_run_16 : decode b_L_run 16 = .ok (.ireturn, 1) := by decide +kernel
theorem d_L_run_17 : decode b_L_run 17 = .ok (.astore 4, 2) := by decide +kernel
theorem d_L_run_19 : decode b_L_run 19 = .ok (.iconst 2, 1) := by decide +kernel
theorem d_L_run_20 : decode b_L_run 20 = .ok (.ireturn, 1) := by decide +kernel
theorem d_L_heard_0 : decode b_L_heard 0 = .ok (.aload_n 2, 1) := by decide +kernel
theorem d_L_heard_1 : decode b_L_heard 1 = .ok (.iconst 0, 1) := by decide +kernel
theorem d_L_heard_2 : decode b_L_heard 2 = .ok (.aload_n 0, 1) := by decide +kernel
theorem d_L_heard_3 : decode b_L_heard 3 = .ok (.iload_n 1, 1) := by decide +kernel
theorem d_L_heard_4 : decode b_L_heard 4 = .ok (.invokevirtual 56, 3) := by decide +kernel
theorem d_L_heard_12 : decode b_L_heard 12 = .ok (.astore_n 3, 1) := by decide +kernel
theorem d_L_heard_13 : decode b_L_heard 13 = .ok (.iconst 1, 1) := by decide +kernel
theorem d_L_heard_14 : decode b_L_heard 14 = .ok (.ireturn, 1) := by decide +kernel
theorem d_L_law_0 : decode code 0 = .ok (.new 8, 3) := by decide +kernel
theorem d_L_law_3 : decode code 3 = .ok (.dup, 1) := by decide +kernel
theorem d_L_law_4 : decode code 4 = .ok (.invokespecial 60, 3) := by decide +kernel
theorem d_L_law_7 : decode code 7 = .ok (.astore_n 1, 1) := by decide +kernel
theorem d_L_law_8 : decode code 8 = .ok (.new 61, 3) := by decide +kernel
theorem d_L_law_11 : decode code 11 = .ok (.dup, 1) := by decide +kernel
theorem d_L_law_12 : decode code 12 = .ok (.invokespecial 63, 3) := by decide +kernel
theorem d_L_law_15 : decode code 15 = .ok (.astore_n 2, 1) := by decide +kernel
theorem d_L_law_16 : decode code 16 = .ok (.iconst 1, 1) := by decide +kernel
theorem d_L_law_17 : decode code 17 = .ok (.newarray .long, 2) := by decide +kernel
theorem d_L_law_19 : decode code 19 = .ok (.astore_n 3, 1) := by decide +kernel
theorem d_L_law_20 : decode code 20 = .ok (.iconst 0, 1) := by decide +kernel
theorem d_L_law_21 : decode code 21 = .ok (.istore 4, 2) := by decide +kernel
theorem d_L_law_23 : decode code 23 = .ok (.iload 4, 2) := by decide +kernel
theorem d_L_law_25 : decode code 25 = .ok (.aload_n 0, 1) := by decide +kernel
theorem d_L_law_26 : decode code 26 = .ok (.arraylength, 1) := by decide +kernel
theorem d_L_law_27 : decode code 27 = .ok (.bipush 6, 2) := by decide +kernel
theorem d_L_law_29 : decode code 29 = .ok (.isub, 1) := by decide +kernel
theorem d_L_law_30 : decode code 30 = .ok (.if_icmp .gt 969, 3) := by decide +kernel
theorem d_L_law_33 : decode code 33 = .ok (.aload_n 0, 1) := by decide +kernel
theorem d_L_law_34 : decode code 34 = .ok (.iload 4, 2) := by decide +kernel
theorem d_L_law_36 : decode code 36 = .ok (.iaload, 1) := by decide +kernel
theorem d_L_law_37 : decode code 37 = .ok (.bipush 31, 2) := by decide +kernel
theorem d_L_law_39 : decode code 39 = .ok (.iand, 1) := by decide +kernel
theorem d_L_law_40 : decode code 40 = .ok (.tableswitch 953 0 16 #[84, 128, 232, 280, 352, 388, 399, 443, 511, 591, 671, 739, 764, 775, 859, 872, 928], 84) := by decide +kernel
theorem d_L_law_124 : decode code 124 = .ok (.aload_n 1, 1) := by decide +kernel
theorem d_L_law_125 : decode code 125 = .ok (.aload_n 3, 1) := by decide +kernel
theorem d_L_law_126 : decode code 126 = .ok (.invokestatic 64, 3) := by decide +kernel
theorem d_L_law_129 : decode code 129 = .ok (.istore 5, 2) := by decide +kernel
theorem d_L_law_131 : decode code 131 = .ok (.aload_n 2, 1) := by decide +kernel
theorem d_L_law_132 : decode code 132 = .ok (.invokevirtual 69, 3) := by decide +kernel
theorem d_L_law_135 : decode code 135 = .ok (.istore 6, 2) := by decide +kernel
theorem d_L_law_137 : decode code 137 = .ok (.aload_n 2, 1) := by decide +kernel
theorem d_L_law_138 : decode code 138 = .ok (.invokevirtual 70, 3) := by decide +kernel
theorem d_L_law_141 : decode code 141 = .ok (.iload 5, 2) := by decide +kernel
theorem d_L_law_143 : decode code 143 = .ok (.if_icmp .eq 5, 3) := by decide +kernel
theorem d_L_law_148 : decode code 148 = .ok (.iload 5, 2) := by decide +kernel
theorem d_L_law_150 : decode code 150 = .ok (.ifCond .ne 15, 3) := by decide +kernel
theorem d_L_law_153 : decode code 153 = .ok (.aload_n 3, 1) := by decide +kernel
theorem d_L_law_154 : decode code 154 = .ok (.iconst 0, 1) := by decide +kernel
theorem d_L_law_155 : decode code 155 = .ok (.laload, 1) := by decide +kernel
theorem d_L_law_156 : decode code 156 = .ok (.iload 6, 2) := by decide +kernel
theorem d_L_law_158 : decode code 158 = .ok (.i2l, 1) := by decide +kernel
theorem d_L_law_159 : decode code 159 = .ok (.lcmp, 1) := by decide +kernel
theorem d_L_law_160 : decode code 160 = .ok (.ifCond .eq 5, 3) := by decide +kernel
theorem d_L_law_165 : decode code 165 = .ok (.goto 828, 3) := by decide +kernel
theorem d_L_law_168 : decode code 168 = .ok (.aload_n 1, 1) := by decide +kernel
theorem d_L_law_169 : decode code 169 = .ok (.aload_n 0, 1) := by decide +kernel
theorem d_L_law_170 : decode code 170 = .ok (.iload 4, 2) := by decide +kernel
theorem d_L_law_172 : decode code 172 = .ok (.iconst 1, 1) := by decide +kernel
theorem d_L_law_173 : decode code 173 = .ok (.iadd, 1) := by decide +kernel
theorem d_L_law_174 : decode code 174 = .ok (.iaload, 1) := by decide +kernel
theorem d_L_law_175 : decode code 175 = .ok (.aload_n 0, 1) := by decide +kernel
theorem d_L_law_176 : decode code 176 = .ok (.iload 4, 2) := by decide +kernel
theorem d_L_law_178 : decode code 178 = .ok (.iconst 2, 1) := by decide +kernel
theorem d_L_law_179 : decode code 179 = .ok (.iadd, 1) := by decide +kernel
theorem d_L_law_180 : decode code 180 = .ok (.iaload, 1) := by decide +kernel
theorem d_L_law_181 : decode code 181 = .ok (.aload_n 0, 1) := by decide +kernel
theorem d_L_law_182 : decode code 182 = .ok (.iload 4, 2) := by decide +kernel
theorem d_L_law_184 : decode code 184 = .ok (.iconst 3, 1) := by decide +kernel
theorem d_L_law_185 : decode code 185 = .ok (.iadd, 1) := by decide +kernel
theorem d_L_law_186 : decode code 186 = .ok (.iaload, 1) := by decide +kernel
theorem d_L_law_187 : decode code 187 = .ok (.aload_n 0, 1) := by decide +kernel
theorem d_L_law_188 : decode code 188 = .ok (.iload 4, 2) := by decide +kernel
theorem d_L_law_190 : decode code 190 = .ok (.iconst 4, 1) := by decide +kernel
theorem d_L_law_191 : decode code 191 = .ok (.iadd, 1) := by decide +kernel
theorem d_L_law_192 : decode code 192 = .ok (.iaload, 1) := by decide +kernel
theorem d_L_law_193 : decode code 193 = .ok (.aload_n 0, 1) := by decide +kernel
theorem d_L_law_194 : decode code 194 = .ok (.iload 4, 2) := by decide +kernel
theorem d_L_law_196 : decode code 196 = .ok (.iconst 5, 1) := by decide +kernel
theorem d_L_law_197 : decode code 197 = .ok (.iadd, 1) := by decide +kernel
theorem d_L_law_198 : decode code 198 = .ok (.iaload, 1) := by decide +kernel
theorem d_L_law_199 : decode code 199 = .ok (.aload_n 3, 1) := by decide +kernel
theorem d_L_law_200 : decode code 200 = .ok (.invokestatic 73, 3) := by decide +kernel
theorem d_L_law_203 : decode code 203 = .ok (.istore 5, 2) := by decide +kernel
theorem d_L_law_205 : decode code 205 = .ok (.aload_n 2, 1) := by decide +kernel
theorem d_L_law_206 : decode code 206 = .ok (.aload_n 0, 1) := by decide +kernel
theorem d_L_law_207 : decode code 207 = .ok (.iload 4, 2) := by decide +kernel
theorem d_L_law_209 : decode code 209 = .ok (.iconst 1, 1) := by decide +kernel
theorem d_L_law_210 : decode code 210 = .ok (.iadd, 1) := by decide +kernel
theorem d_L_law_211 : decode code 211 = .ok (.iaload, 1) := by decide +kernel
theorem d_L_law_212 : decode code 212 = .ok (.aload_n 0, 1) := by decide +kernel
theorem d_L_law_213 : decode code 213 = .ok (.iload 4, 2) := by decide +kernel
theorem d_L_law_215 : decode code 215 = .ok (.iconst 2, 1) := by decide +kernel
theorem d_L_law_216 : decode code 216 = .ok (.iadd, 1) := by decide +kernel
theorem d_L_law_217 : decode code 217 = .ok (.iaload, 1) := by decide +kernel
theorem d_L_law_218 : decode code 218 = .ok (.aload_n 0, 1) := by decide +kernel
theorem d_L_law_219 : decode code 219 = .ok (.iload 4, 2) := by decide +kernel
theorem d_L_law_221 : decode code 221 = .ok (.iconst 3, 1) := by decide +kernel
theorem d_L_law_222 : decode code 222 = .ok (.iadd, 1) := by decide +kernel
theorem d_L_law_223 : decode code 223 = .ok (.iaload, 1) := by decide +kernel
theorem d_L_law_224 : decode code 224 = .ok (.aload_n 0, 1) := by decide +kernel
theorem d_L_law_225 : decode code 225 = .ok (.iload 4, 2) := by decide +kernel
theorem d_L_law_227 : decode code 227 = .ok (.iconst 4, 1) := by decide +kernel
theorem d_L_law_228 : decode code 228 = .ok (.iadd, 1) := by decide +kernel
theorem d_L_law_229 : decode code 229 = .ok (.iaload, 1) := by decide +kernel
theorem d_L_law_230 : decode code 230 = .ok (.aload_n 0, 1) := by decide +kernel
theorem d_L_law_231 : decode code 231 = .ok (.iload 4, 2) := by decide +kernel
theorem d_L_law_233 : decode code 233 = .ok (.iconst 5, 1) := by decide +kernel
theorem d_L_law_234 : decode code 234 = .ok (.iadd, 1) := by decide +kernel
theorem d_L_law_235 : decode code 235 = .ok (.iaload, 1) := by decide +kernel
theorem d_L_law_236 : decode code 236 = .ok (.invokevirtual 76, 3) := by decide +kernel
theorem d_L_law_239 : decode code 239 = .ok (.istore 6, 2) := by decide +kernel
theorem d_L_law_241 : decode code 241 = .ok (.aload_n 2, 1) := by decide +kernel
theorem d_L_law_242 : decode code 242 = .ok (.invokevirtual 70, 3) := by decide +kernel
theorem d_L_law_245 : decode code 245 = .ok (.iload 5, 2) := by decide +kernel
theorem d_L_law_247 : decode code 247 = .ok (.if_icmp .eq 5, 3) := by decide +kernel
theorem d_L_law_252 : decode code 252 = .ok (.iload 5, 2) := by decide +kernel
theorem d_L_law_254 : decode code 254 = .ok (.ifCond .ne 15, 3) := by decide +kernel
theorem d_L_law_269 : decode code 269 = .ok (.goto 724, 3) := by decide +kernel
theorem d_L_law_272 : decode code 272 = .ok (.aload_n 1, 1) := by decide +kernel
theorem d_L_law_273 : decode code 273 = .ok (.aload_n 0, 1) := by decide +kernel
theorem d_L_law_274 : decode code 274 = .ok (.iload 4, 2) := by decide +kernel
theorem d_L_law_276 : decode code 276 = .ok (.iconst 1, 1) := by decide +kernel
theorem d_L_law_277 : decode code 277 = .ok (.iadd, 1) := by decide +kernel
theorem d_L_law_278 : decode code 278 = .ok (.iaload, 1) := by decide +kernel
theorem d_L_law_279 : decode code 279 = .ok (.aload_n 0, 1) := by decide +kernel
theorem d_L_law_280 : decode code 280 = .ok (.iload 4, 2) := by decide +kernel
theorem d_L_law_282 : decode code 282 = .ok (.iconst 2, 1) := by decide +kernel
theorem d_L_law_283 : decode code 283 = .ok (.iadd, 1) := by decide +kernel
theorem d_L_law_284 : decode code 284 = .ok (.iaload, 1) := by decide +kernel
theorem d_L_law_285 : decode code 285 = .ok (.invokestatic 77, 3) := by decide +kernel
theorem d_L_law_288 : decode code 288 = .ok (.istore 5, 2) := by decide +kernel
theorem d_L_law_290 : decode code 290 = .ok (.aload_n 2, 1) := by decide +kernel
theorem d_L_law_291 : decode code 291 = .ok (.aload_n 0, 1) := by decide +kernel
theorem d_L_law_292 : decode code 292 = .ok (.iload 4, 2) := by decide +kernel
theorem d_L_law_294 : decode code 294 = .ok (.iconst 1, 1) := by decide +kernel
theorem d_L_law_295 : decode code 295 = .ok (.iadd, 1) := by decide +kernel
theorem d_L_law_296 : decode code 296 = .ok (.iaload, 1) := by decide +kernel
theorem d_L_law_297 : decode code 297 = .ok (.aload_n 0, 1) := by decide +kernel
theorem d_L_law_298 : decode code 298 = .ok (.iload 4, 2) := by decide +kernel
theorem d_L_law_300 : decode code 300 = .ok (.iconst 2, 1) := by decide +kernel
theorem d_L_law_301 : decode code 301 = .ok (.iadd, 1) := by decide +kernel
theorem d_L_law_302 : decode code 302 = .ok (.iaload, 1) := by decide +kernel
theorem d_L_law_303 : decode code 303 = .ok (.invokevirtual 80, 3) := by decide +kernel
theorem d_L_law_306 : decode code 306 = .ok (.aload_n 2, 1) := by decide +kernel
theorem d_L_law_307 : decode code 307 = .ok (.invokevirtual 70, 3) := by decide +kernel
theorem d_L_law_310 : decode code 310 = .ok (.iload 5, 2) := by decide +kernel
theorem d_L_law_312 : decode code 312 = .ok (.if_icmp .eq 5, 3) := by decide +kernel
theorem d_L_law_317 : decode code 317 = .ok (.goto 676, 3) := by decide +kernel
theorem d_L_law_320 : decode code 320 = .ok (.aload_n 1, 1) := by decide +kernel
theorem d_L_law_321 : decode code 321 = .ok (.aload_n 0, 1) := by decide +kernel
theorem d_L_law_322 : decode code 322 = .ok (.iload 4, 2) := by decide +kernel
theorem d_L_law_324 : decode code 324 = .ok (.iconst 1, 1) := by decide +kernel
theorem d_L_law_325 : decode code 325 = .ok (.iadd, 1) := by decide +kernel
theorem d_L_law_326 : decode code 326 = .ok (.iaload, 1) := by decide +kernel
theorem d_L_law_327 : decode code 327 = .ok (.aload_n 0, 1) := by decide +kernel
theorem d_L_law_328 : decode code 328 = .ok (.iload 4, 2) := by decide +kernel
theorem d_L_law_330 : decode code 330 = .ok (.iconst 2, 1) := by decide +kernel
theorem d_L_law_331 : decode code 331 = .ok (.iadd, 1) := by decide +kernel
theorem d_L_law_332 : decode code 332 = .ok (.iaload, 1) := by decide +kernel
theorem d_L_law_333 : decode code 333 = .ok (.aload_n 0, 1) := by decide +kernel
theorem d_L_law_334 : decode code 334 = .ok (.iload 4, 2) := by decide +kernel
theorem d_L_law_336 : decode code 336 = .ok (.iconst 3, 1) := by decide +kernel
theorem d_L_law_337 : decode code 337 = .ok (.iadd, 1) := by decide +kernel
theorem d_L_law_338 : decode code 338 = .ok (.iaload, 1) := by decide +kernel
theorem d_L_law_339 : decode code 339 = .ok (.aload_n 0, 1) := by decide +kernel
theorem d_L_law_340 : decode code 340 = .ok (.iload 4, 2) := by decide +kernel
theorem d_L_law_342 : decode code 342 = .ok (.iconst 4, 1) := by decide +kernel
theorem d_L_law_343 : decode code 343 = .ok (.iadd, 1) := by decide +kernel
theorem d_L_law_344 : decode code 344 = .ok (.iaload, 1) := by decide +kernel
theorem d_L_law_345 : decode code 345 = .ok (.invokestatic 81, 3) := by decide +kernel
theorem d_L_law_348 : decode code 348 = .ok (.istore 5, 2) := by decide +kernel
theorem d_L_law_350 : decode code 350 = .ok (.aload_n 2, 1) := by decide +kernel
theorem d_L_law_351 : decode code 351 = .ok (.aload_n 0, 1) := by decide +kernel
theorem d_L_law_352 : decode code 352 = .ok (.iload 4, 2) := by decide +kernel
theorem d_L_law_354 : decode code 354 = .ok (.iconst 1, 1) := by decide +kernel
theorem d_L_law_355 : decode code 355 = .ok (.iadd, 1) := by decide +kernel
theorem d_L_law_356 : decode code 356 = .ok (.iaload, 1) := by decide +kernel
theorem d_L_law_357 : decode code 357 = .ok (.aload_n 0, 1) := by decide +kernel
theorem d_L_law_358 : decode code 358 = .ok (.iload 4, 2) := by decide +kernel
theorem d_L_law_360 : decode code 360 = .ok (.iconst 2, 1) := by decide +kernel
theorem d_L_law_361 : decode code 361 = .ok (.iadd, 1) := by decide +kernel
theorem d_L_law_362 : decode code 362 = .ok (.iaload, 1) := by decide +kernel
theorem d_L_law_363 : decode code 363 = .ok (.aload_n 0, 1) := by decide +kernel
theorem d_L_law_364 : decode code 364 = .ok (.iload 4, 2) := by decide +kernel
theorem d_L_law_366 : decode code 366 = .ok (.iconst 3, 1) := by decide +kernel
theorem d_L_law_367 : decode code 367 = .ok (.iadd, 1) := by decide +kernel
theorem d_L_law_368 : decode code 368 = .ok (.iaload, 1) := by decide +kernel
theorem d_L_law_369 : decode code 369 = .ok (.aload_n 0, 1) := by decide +kernel
theorem d_L_law_370 : decode code 370 = .ok (.iload 4, 2) := by decide +kernel
theorem d_L_law_372 : decode code 372 = .ok (.iconst 4, 1) := by decide +kernel
theorem d_L_law_373 : decode code 373 = .ok (.iadd, 1) := by decide +kernel
theorem d_L_law_374 : decode code 374 = .ok (.iaload, 1) := by decide +kernel
theorem d_L_law_375 : decode code 375 = .ok (.invokevirtual 84, 3) := by decide +kernel
theorem d_L_law_378 : decode code 378 = .ok (.aload_n 2, 1) := by decide +kernel
theorem d_L_law_379 : decode code 379 = .ok (.invokevirtual 70, 3) := by decide +kernel
theorem d_L_law_382 : decode code 382 = .ok (.iload 5, 2) := by decide +kernel
theorem d_L_law_384 : decode code 384 = .ok (.if_icmp .eq 5, 3) := by decide +kernel
theorem d_L_law_389 : decode code 389 = .ok (.goto 604, 3) := by decide +kernel
theorem d_L_law_392 : decode code 392 = .ok (.aload_n 1, 1) := by decide +kernel
theorem d_L_law_393 : decode code 393 = .ok (.aload_n 0, 1) := by decide +kernel
theorem d_L_law_394 : decode code 394 = .ok (.iload 4, 2) := by decide +kernel
theorem d_L_law_396 : decode code 396 = .ok (.iconst 1, 1) := by decide +kernel
theorem d_L_law_397 : decode code 397 = .ok (.iadd, 1) := by decide +kernel
theorem d_L_law_398 : decode code 398 = .ok (.iaload, 1) := by decide +kernel
theorem d_L_law_399 : decode code 399 = .ok (.invokestatic 85, 3) := by decide +kernel
theorem d_L_law_402 : decode code 402 = .ok (.istore 5, 2) := by decide +kernel
theorem d_L_law_404 : decode code 404 = .ok (.aload_n 2, 1) := by decide +kernel
theorem d_L_law_405 : decode code 405 = .ok (.aload_n 0, 1) := by decide +kernel
theorem d_L_law_406 : decode code 406 = .ok (.iload 4, 2) := by decide +kernel
theorem d_L_law_408 : decode code 408 = .ok (.iconst 1, 1) := by decide +kernel
theorem d_L_law_409 : decode code 409 = .ok (.iadd, 1) := by decide +kernel
theorem d_L_law_410 : decode code 410 = .ok (.iaload, 1) := by decide +kernel
theorem d_L_law_411 : decode code 411 = .ok (.invokevirtual 88, 3) := by decide +kernel
theorem d_L_law_414 : decode code 414 = .ok (.aload_n 2, 1) := by decide +kernel
theorem d_L_law_415 : decode code 415 = .ok (.invokevirtual 70, 3) := by decide +kernel
theorem d_L_law_418 : decode code 418 = .ok (.iload 5, 2) := by decide +kernel
theorem d_L_law_420 : decode code 420 = .ok (.if_icmp .eq 5, 3) := by decide +kernel
theorem d_L_law_425 : decode code 425 = .ok (.goto 568, 3) := by decide +kernel
theorem d_L_law_428 : decode code 428 = .ok (.aload_n 1, 1) := by decide +kernel
theorem d_L_law_429 : decode code 429 = .ok (.invokevirtual 89, 3) := by decide +kernel
theorem d_L_law_432 : decode code 432 = .ok (.aload_n 2, 1) := by decide +kernel
theorem d_L_law_433 : decode code 433 = .ok (.invokevirtual 92, 3) := by decide +kernel
theorem d_L_law_436 : decode code 436 = .ok (.goto 557, 3) := by decide +kernel
theorem d_L_law_439 : decode code 439 = .ok (.aload_n 1, 1) := by decide +kernel
theorem d_L_law_440 : decode code 440 = .ok (.aload_n 3, 1) := by decide +kernel
theorem d_L_law_441 : decode code 441 = .ok (.invokestatic 93, 3) := by decide +kernel
theorem d_L_law_444 : decode code 444 = .ok (.istore 5, 2) := by decide +kernel
theorem d_L_law_446 : decode code 446 = .ok (.aload_n 2, 1) := by decide +kernel
theorem d_L_law_447 : decode code 447 = .ok (.invokevirtual 95, 3) := by decide +kernel
theorem d_L_law_450 : decode code 450 = .ok (.istore 6, 2) := by decide +kernel
theorem d_L_law_452 : decode code 452 = .ok (.aload_n 2, 1) := by decide +kernel
theorem d_L_law_453 : decode code 453 = .ok (.invokevirtual 70, 3) := by decide +kernel
theorem d_L_law_456 : decode code 456 = .ok (.iload 5, 2) := by decide +kernel
theorem d_L_law_458 : decode code 458 = .ok (.if_icmp .eq 5, 3) := by decide +kernel
theorem d_L_law_463 : decode code 463 = .ok (.iload 5, 2) := by decide +kernel
theorem d_L_law_465 : decode code 465 = .ok (.ifCond .ne 15, 3) := by decide +kernel
theorem d_L_law_480 : decode code 480 = .ok (.goto 513, 3) := by decide +kernel
theorem d_L_law_483 : decode code 483 = .ok (.aload_n 1, 1) := by decide +kernel
theorem d_L_law_484 : decode code 484 = .ok (.aload_n 0, 1) := by decide +kernel
theorem d_L_law_485 : decode code 485 = .ok (.iload 4, 2) := by decide +kernel
theorem d_L_law_487 : decode code 487 = .ok (.iconst 1, 1) := by decide +kernel
theorem d_L_law_488 : decode code 488 = .ok (.iadd, 1) := by decide +kernel
theorem d_L_law_489 : decode code 489 = .ok (.iaload, 1) := by decide +kernel
theorem d_L_law_490 : decode code 490 = .ok (.aload_n 0, 1) := by decide +kernel
theorem d_L_law_491 : decode code 491 = .ok (.iload 4, 2) := by decide +kernel
theorem d_L_law_493 : decode code 493 = .ok (.iconst 2, 1) := by decide +kernel
theorem d_L_law_494 : decode code 494 = .ok (.iadd, 1) := by decide +kernel
theorem d_L_law_495 : decode code 495 = .ok (.iaload, 1) := by decide +kernel
theorem d_L_law_496 : decode code 496 = .ok (.aload_n 3, 1) := by decide +kernel
theorem d_L_law_497 : decode code 497 = .ok (.invokestatic 96, 3) := by decide +kernel
theorem d_L_law_500 : decode code 500 = .ok (.istore 5, 2) := by decide +kernel
theorem d_L_law_502 : decode code 502 = .ok (.aload_n 2, 1) := by decide +kernel
theorem d_L_law_503 : decode code 503 = .ok (.aload_n 0, 1) := by decide +kernel
theorem d_L_law_504 : decode code 504 = .ok (.iload 4, 2) := by decide +kernel
theorem d_L_law_506 : decode code 506 = .ok (.iconst 1, 1) := by decide +kernel
theorem d_L_law_507 : decode code 507 = .ok (.iadd, 1) := by decide +kernel
theorem d_L_law_508 : decode code 508 = .ok (.iaload, 1) := by decide +kernel
theorem d_L_law_509 : decode code 509 = .ok (.aload_n 0, 1) := by decide +kernel
theorem d_L_law_510 : decode code 510 = .ok (.iload 4, 2) := by decide +kernel
theorem d_L_law_512 : decode code 512 = .ok (.iconst 2, 1) := by decide +kernel
theorem d_L_law_513 : decode code 513 = .ok (.iadd, 1) := by decide +kernel
theorem d_L_law_514 : decode code 514 = .ok (.iaload, 1) := by decide +kernel
theorem d_L_law_515 : decode code 515 = .ok (.invokevirtual 99, 3) := by decide +kernel
theorem d_L_law_518 : decode code 518 = .ok (.istore 6, 2) := by decide +kernel
theorem d_L_law_520 : decode code 520 = .ok (.aload_n 2, 1) := by decide +kernel
theorem d_L_law_521 : decode code 521 = .ok (.invokevirtual 70, 3) := by decide +kernel
theorem d_L_law_524 : decode code 524 = .ok (.iload 5, 2) := by decide +kernel
theorem d_L_law_526 : decode code 526 = .ok (.if_icmp .eq 5, 3) := by decide +kernel
theorem d_L_law_531 : decode code 531 = .ok (.iload 5, 2) := by decide +kernel
theorem d_L_law_533 : decode code 533 = .ok (.ifCond .ne 15, 3) := by decide +kernel
theorem d_L_law_548 : decode code 548 = .ok (.goto 445, 3) := by decide +kernel
theorem d_L_law_551 : decode code 551 = .ok (.aload_n 1, 1) := by decide +kernel
theorem d_L_law_552 : decode code 552 = .ok (.aload_n 0, 1) := by decide +kernel
theorem d_L_law_553 : decode code 553 = .ok (.iload 4, 2) := by decide +kernel
theorem d_L_law_555 : decode code 555 = .ok (.iconst 1, 1) := by decide +kernel
theorem d_L_law_556 : decode code 556 = .ok (.iadd, 1) := by decide +kernel
theorem d_L_law_557 : decode code 557 = .ok (.iaload, 1) := by decide +kernel
theorem d_L_law_558 : decode code 558 = .ok (.aload_n 0, 1) := by decide +kernel
theorem d_L_law_559 : decode code 559 = .ok (.iload 4, 2) := by decide +kernel
theorem d_L_law_561 : decode code 561 = .ok (.iconst 2, 1) := by decide +kernel
theorem d_L_law_562 : decode code 562 = .ok (.iadd, 1) := by decide +kernel
theorem d_L_law_563 : decode code 563 = .ok (.iaload, 1) := by decide +kernel
theorem d_L_law_564 : decode code 564 = .ok (.aload_n 0, 1) := by decide +kernel
theorem d_L_law_565 : decode code 565 = .ok (.iload 4, 2) := by decide +kernel
theorem d_L_law_567 : decode code 567 = .ok (.iconst 3, 1) := by decide +kernel
theorem d_L_law_568 : decode code 568 = .ok (.iadd, 1) := by decide +kernel
theorem d_L_law_569 : decode code 569 = .ok (.iaload, 1) := by decide +kernel
theorem d_L_law_570 : decode code 570 = .ok (.aload_n 3, 1) := by decide +kernel
theorem d_L_law_571 : decode code 571 = .ok (.invokestatic 100, 3) := by decide +kernel
theorem d_L_law_574 : decode code 574 = .ok (.istore 5, 2) := by decide +kernel
theorem d_L_law_576 : decode code 576 = .ok (.aload_n 2, 1) := by decide +kernel
theorem d_L_law_577 : decode code 577 = .ok (.aload_n 0, 1) := by decide +kernel
theorem d_L_law_578 : decode code 578 = .ok (.iload 4, 2) := by decide +kernel
theorem d_L_law_580 : decode code 580 = .ok (.iconst 1, 1) := by decide +kernel
theorem d_L_law_581 : decode code 581 = .ok (.iadd, 1) := by decide +kernel
theorem d_L_law_582 : decode code 582 = .ok (.iaload, 1) := by decide +kernel
theorem d_L_law_583 : decode code 583 = .ok (.aload_n 0, 1) := by decide +kernel
theorem d_L_law_584 : decode code 584 = .ok (.iload 4, 2) := by decide +kernel
theorem d_L_law_586 : decode code 586 = .ok (.iconst 2, 1) := by decide +kernel
theorem d_L_law_587 : decode code 587 = .ok (.iadd, 1) := by decide +kernel
theorem d_L_law_588 : decode code 588 = .ok (.iaload, 1) := by decide +kernel
theorem d_L_law_589 : decode code 589 = .ok (.aload_n 0, 1) := by decide +kernel
theorem d_L_law_590 : decode code 590 = .ok (.iload 4, 2) := by decide +kernel
theorem d_L_law_592 : decode code 592 = .ok (.iconst 3, 1) := by decide +kernel
theorem d_L_law_593 : decode code 593 = .ok (.iadd, 1) := by decide +kernel
theorem d_L_law_594 : decode code 594 = .ok (.iaload, 1) := by decide +kernel
theorem d_L_law_595 : decode code 595 = .ok (.invokevirtual 103, 3) := by decide +kernel
theorem d_L_law_598 : decode code 598 = .ok (.istore 6, 2) := by decide +kernel
theorem d_L_law_600 : decode code 600 = .ok (.aload_n 2, 1) := by decide +kernel
theorem d_L_law_601 : decode code 601 = .ok (.invokevirtual 70, 3) := by decide +kernel
theorem d_L_law_604 : decode code 604 = .ok (.iload 5, 2) := by decide +kernel
theorem d_L_law_606 : decode code 606 = .ok (.if_icmp .eq 5, 3) := by decide +kernel
theorem d_L_law_611 : decode code 611 = .ok (.iload 5, 2) := by decide +kernel
theorem d_L_law_613 : decode code 613 = .ok (.ifCond .ne 15, 3) := by decide +kernel
theorem d_L_law_628 : decode code 628 = .ok (.goto 365, 3) := by decide +kernel
theorem d_L_law_631 : decode code 631 = .ok (.aload_n 1, 1) := by decide +kernel
theorem d_L_law_632 : decode code 632 = .ok (.aload_n 0, 1) := by decide +kernel
theorem d_L_law_633 : decode code 633 = .ok (.iload 4, 2) := by decide +kernel
theorem d_L_law_635 : decode code 635 = .ok (.iconst 1, 1) := by decide +kernel
theorem d_L_law_636 : decode code 636 = .ok (.iadd, 1) := by decide +kernel
theorem d_L_law_637 : decode code 637 = .ok (.iaload, 1) := by decide +kernel
theorem d_L_law_638 : decode code 638 = .ok (.aload_n 0, 1) := by decide +kernel
theorem d_L_law_639 : decode code 639 = .ok (.iload 4, 2) := by decide +kernel
theorem d_L_law_641 : decode code 641 = .ok (.iconst 2, 1) := by decide +kernel
theorem d_L_law_642 : decode code 642 = .ok (.iadd, 1) := by decide +kernel
theorem d_L_law_643 : decode code 643 = .ok (.iaload, 1) := by decide +kernel
theorem d_L_law_644 : decode code 644 = .ok (.aload_n 0, 1) := by decide +kernel
theorem d_L_law_645 : decode code 645 = .ok (.iload 4, 2) := by decide +kernel
theorem d_L_law_647 : decode code 647 = .ok (.iconst 3, 1) := by decide +kernel
theorem d_L_law_648 : decode code 648 = .ok (.iadd, 1) := by decide +kernel
theorem d_L_law_649 : decode code 649 = .ok (.iaload, 1) := by decide +kernel
theorem d_L_law_650 : decode code 650 = .ok (.aload_n 3, 1) := by decide +kernel
theorem d_L_law_651 : decode code 651 = .ok (.invokestatic 104, 3) := by decide +kernel
theorem d_L_law_654 : decode code 654 = .ok (.istore 5, 2) := by decide +kernel
theorem d_L_law_656 : decode code 656 = .ok (.aload_n 2, 1) := by decide +kernel
theorem d_L_law_657 : decode code 657 = .ok (.aload_n 0, 1) := by decide +kernel
theorem d_L_law_658 : decode code 658 = .ok (.iload 4, 2) := by decide +kernel
theorem d_L_law_660 : decode code 660 = .ok (.iconst 1, 1) := by decide +kernel
theorem d_L_law_661 : decode code 661 = .ok (.iadd, 1) := by decide +kernel
theorem d_L_law_662 : decode code 662 = .ok (.iaload, 1) := by decide +kernel
theorem d_L_law_663 : decode code 663 = .ok (.aload_n 0, 1) := by decide +kernel
theorem d_L_law_664 : decode code 664 = .ok (.iload 4, 2) := by decide +kernel
theorem d_L_law_666 : decode code 666 = .ok (.iconst 2, 1) := by decide +kernel
theorem d_L_law_667 : decode code 667 = .ok (.iadd, 1) := by decide +kernel
theorem d_L_law_668 : decode code 668 = .ok (.iaload, 1) := by decide +kernel
theorem d_L_law_669 : decode code 669 = .ok (.aload_n 0, 1) := by decide +kernel
theorem d_L_law_670 : decode code 670 = .ok (.iload 4, 2) := by decide +kernel
theorem d_L_law_672 : decode code 672 = .ok (.iconst 3, 1) := by decide +kernel
theorem d_L_law_673 : decode code 673 = .ok (.iadd, 1) := by decide +kernel
theorem d_L_law_674 : decode code 674 = .ok (.iaload, 1) := by decide +kernel
theorem d_L_law_675 : decode code 675 = .ok (.invokevirtual 106, 3) := by decide +kernel
theorem d_L_law_678 : decode code 678 = .ok (.istore 6, 2) := by decide +kernel
theorem d_L_law_680 : decode code 680 = .ok (.aload_n 2, 1) := by decide +kernel
theorem d_L_law_681 : decode code 681 = .ok (.invokevirtual 70, 3) := by decide +kernel
theorem d_L_law_684 : decode code 684 = .ok (.iload 5, 2) := by decide +kernel
theorem d_L_law_686 : decode code 686 = .ok (.if_icmp .eq 5, 3) := by decide +kernel
theorem d_L_law_691 : decode code 691 = .ok (.iload 5, 2) := by decide +kernel
theorem d_L_law_693 : decode code 693 = .ok (.ifCond .ne 15, 3) := by decide +kernel
theorem d_L_law_708 : decode code 708 = .ok (.goto 285, 3) := by decide +kernel
theorem d_L_law_711 : decode code 711 = .ok (.aload_n 1, 1) := by decide +kernel
theorem d_L_law_712 : decode code 712 = .ok (.aload_n 0, 1) := by decide +kernel
theorem d_L_law_713 : decode code 713 = .ok (.iload 4, 2) := by decide +kernel
theorem d_L_law_715 : decode code 715 = .ok (.iconst 1, 1) := by decide +kernel
theorem d_L_law_716 : decode code 716 = .ok (.iadd, 1) := by decide +kernel
theorem d_L_law_717 : decode code 717 = .ok (.iaload, 1) := by decide +kernel
theorem d_L_law_718 : decode code 718 = .ok (.aload_n 0, 1) := by decide +kernel
theorem d_L_law_719 : decode code 719 = .ok (.iload 4, 2) := by decide +kernel
theorem d_L_law_721 : decode code 721 = .ok (.iconst 2, 1) := by decide +kernel
theorem d_L_law_722 : decode code 722 = .ok (.iadd, 1) := by decide +kernel
theorem d_L_law_723 : decode code 723 = .ok (.iaload, 1) := by decide +kernel
theorem d_L_law_724 : decode code 724 = .ok (.aload_n 3, 1) := by decide +kernel
theorem d_L_law_725 : decode code 725 = .ok (.invokestatic 107, 3) := by decide +kernel
theorem d_L_law_728 : decode code 728 = .ok (.istore 5, 2) := by decide +kernel
theorem d_L_law_730 : decode code 730 = .ok (.aload_n 2, 1) := by decide +kernel
theorem d_L_law_731 : decode code 731 = .ok (.aload_n 0, 1) := by decide +kernel
theorem d_L_law_732 : decode code 732 = .ok (.iload 4, 2) := by decide +kernel
theorem d_L_law_734 : decode code 734 = .ok (.iconst 1, 1) := by decide +kernel
theorem d_L_law_735 : decode code 735 = .ok (.iadd, 1) := by decide +kernel
theorem d_L_law_736 : decode code 736 = .ok (.iaload, 1) := by decide +kernel
theorem d_L_law_737 : decode code 737 = .ok (.aload_n 0, 1) := by decide +kernel
theorem d_L_law_738 : decode code 738 = .ok (.iload 4, 2) := by decide +kernel
theorem d_L_law_740 : decode code 740 = .ok (.iconst 2, 1) := by decide +kernel
theorem d_L_law_741 : decode code 741 = .ok (.iadd, 1) := by decide +kernel
theorem d_L_law_742 : decode code 742 = .ok (.iaload, 1) := by decide +kernel
theorem d_L_law_743 : decode code 743 = .ok (.invokevirtual 109, 3) := by decide +kernel
theorem d_L_law_746 : decode code 746 = .ok (.istore 6, 2) := by decide +kernel
theorem d_L_law_748 : decode code 748 = .ok (.aload_n 2, 1) := by decide +kernel
theorem d_L_law_749 : decode code 749 = .ok (.invokevirtual 70, 3) := by decide +kernel
theorem d_L_law_752 : decode code 752 = .ok (.iload 5, 2) := by decide +kernel
theorem d_L_law_754 : decode code 754 = .ok (.if_icmp .eq 5, 3) := by decide +kernel
theorem d_L_law_759 : decode code 759 = .ok (.iload 5, 2) := by decide +kernel
theorem d_L_law_761 : decode code 761 = .ok (.ifCond .ne 15, 3) := by decide +kernel
theorem d_L_law_776 : decode code 776 = .ok (.goto 217, 3) := by decide +kernel
theorem d_L_law_779 : decode code 779 = .ok (.aload_n 1, 1) := by decide +kernel
theorem d_L_law_780 : decode code 780 = .ok (.aload_n 0, 1) := by decide +kernel
theorem d_L_law_781 : decode code 781 = .ok (.iload 4, 2) := by decide +kernel
theorem d_L_law_783 : decode code 783 = .ok (.iconst 1, 1) := by decide +kernel
theorem d_L_law_784 : decode code 784 = .ok (.iadd, 1) := by decide +kernel
theorem d_L_law_785 : decode code 785 = .ok (.iaload, 1) := by decide +kernel
theorem d_L_law_786 : decode code 786 = .ok (.invokevirtual 110, 3) := by decide +kernel
theorem d_L_law_789 : decode code 789 = .ok (.aload_n 2, 1) := by decide +kernel
theorem d_L_law_790 : decode code 790 = .ok (.aload_n 0, 1) := by decide +kernel
theorem d_L_law_791 : decode code 791 = .ok (.iload 4, 2) := by decide +kernel
theorem d_L_law_793 : decode code 793 = .ok (.iconst 1, 1) := by decide +kernel
theorem d_L_law_794 : decode code 794 = .ok (.iadd, 1) := by decide +kernel
theorem d_L_law_795 : decode code 795 = .ok (.iaload, 1) := by decide +kernel
theorem d_L_law_796 : decode code 796 = .ok (.invokevirtual 114, 3) := by decide +kernel
theorem d_L_law_799 : decode code 799 = .ok (.if_icmp .eq 194, 3) := by decide +kernel
theorem d_L_law_804 : decode code 804 = .ok (.aload_n 1, 1) := by decide +kernel
theorem d_L_law_805 : decode code 805 = .ok (.invokevirtual 115, 3) := by decide +kernel
theorem d_L_law_808 : decode code 808 = .ok (.aload_n 2, 1) := by decide +kernel
theorem d_L_law_809 : decode code 809 = .ok (.invokevirtual 118, 3) := by decide +kernel
theorem d_L_law_812 : decode code 812 = .ok (.goto 181, 3) := by decide +kernel
theorem d_L_law_815 : decode code 815 = .ok (.aload_n 1, 1) := by decide +kernel
theorem d_L_law_816 : decode code 816 = .ok (.aload_n 0, 1) := by decide +kernel
theorem d_L_law_817 : decode code 817 = .ok (.iload 4, 2) := by decide +kernel
theorem d_L_law_819 : decode code 819 = .ok (.iconst 1, 1) := by decide +kernel
theorem d_L_law_820 : decode code 820 = .ok (.iadd, 1) := by decide +kernel
theorem d_L_law_821 : decode code 821 = .ok (.iaload, 1) := by decide +kernel
theorem d_L_law_822 : decode code 822 = .ok (.ifCond .eq 7, 3) := by decide +kernel
theorem d_L_law_825 : decode code 825 = .ok (.iconst 1, 1) := by decide +kernel
theorem d_L_law_826 : decode code 826 = .ok (.goto 4, 3) := by decide +kernel
theorem d_L_law_829 : decode code 829 = .ok (.iconst 0, 1) := by decide +kernel
theorem d_L_law_830 : decode code 830 = .ok (.aload_n 0, 1) := by decide +kernel
theorem d_L_law_831 : decode code 831 = .ok (.iload 4, 2) := by decide +kernel
theorem d_L_law_833 : decode code 833 = .ok (.iconst 2, 1) := by decide +kernel
theorem d_L_law_834 : decode code 834 = .ok (.iadd, 1) := by decide +kernel
theorem d_L_law_835 : decode code 835 = .ok (.iaload, 1) := by decide +kernel
theorem d_L_law_836 : decode code 836 = .ok (.aload_n 3, 1) := by decide +kernel
theorem d_L_law_837 : decode code 837 = .ok (.invokestatic 119, 3) := by decide +kernel
theorem d_L_law_840 : decode code 840 = .ok (.istore 5, 2) := by decide +kernel
theorem d_L_law_842 : decode code 842 = .ok (.aload_n 2, 1) := by decide +kernel
theorem d_L_law_843 : decode code 843 = .ok (.aload_n 0, 1) := by decide +kernel
theorem d_L_law_844 : decode code 844 = .ok (.iload 4, 2) := by decide +kernel
theorem d_L_law_846 : decode code 846 = .ok (.iconst 1, 1) := by decide +kernel
theorem d_L_law_847 : decode code 847 = .ok (.iadd, 1) := by decide +kernel
theorem d_L_law_848 : decode code 848 = .ok (.iaload, 1) := by decide +kernel
theorem d_L_law_849 : decode code 849 = .ok (.ifCond .eq 7, 3) := by decide +kernel
theorem d_L_law_852 : decode code 852 = .ok (.iconst 1, 1) := by decide +kernel
theorem d_L_law_853 : decode code 853 = .ok (.goto 4, 3) := by decide +kernel
theorem d_L_law_856 : decode code 856 = .ok (.iconst 0, 1) := by decide +kernel
theorem d_L_law_857 : decode code 857 = .ok (.aload_n 0, 1) := by decide +kernel
theorem d_L_law_858 : decode code 858 = .ok (.iload 4, 2) := by decide +kernel
theorem d_L_law_860 : decode code 860 = .ok (.iconst 2, 1) := by decide +kernel
theorem d_L_law_861 : decode code 861 = .ok (.iadd, 1) := by decide +kernel
theorem d_L_law_862 : decode code 862 = .ok (.iaload, 1) := by decide +kernel
theorem d_L_law_863 : decode code 863 = .ok (.invokevirtual 122, 3) := by decide +kernel
theorem d_L_law_866 : decode code 866 = .ok (.istore 6, 2) := by decide +kernel
theorem d_L_law_868 : decode code 868 = .ok (.aload_n 2, 1) := by decide +kernel
theorem d_L_law_869 : decode code 869 = .ok (.invokevirtual 70, 3) := by decide +kernel
theorem d_L_law_872 : decode code 872 = .ok (.iload 5, 2) := by decide +kernel
theorem d_L_law_874 : decode code 874 = .ok (.if_icmp .eq 5, 3) := by decide +kernel
theorem d_L_law_879 : decode code 879 = .ok (.iload 5, 2) := by decide +kernel
theorem d_L_law_881 : decode code 881 = .ok (.ifCond .ne 15, 3) := by decide +kernel
theorem d_L_law_896 : decode code 896 = .ok (.goto 97, 3) := by decide +kernel
theorem d_L_law_899 : decode code 899 = .ok (.aload_n 1, 1) := by decide +kernel
theorem d_L_law_900 : decode code 900 = .ok (.invokevirtual 123, 3) := by decide +kernel
theorem d_L_law_903 : decode code 903 = .ok (.aload_n 2, 1) := by decide +kernel
theorem d_L_law_904 : decode code 904 = .ok (.invokevirtual 126, 3) := by decide +kernel
theorem d_L_law_907 : decode code 907 = .ok (.if_icmp .eq 86, 3) := by decide +kernel
theorem d_L_law_912 : decode code 912 = .ok (.aload_n 1, 1) := by decide +kernel
theorem d_L_law_913 : decode code 913 = .ok (.aload_n 0, 1) := by decide +kernel
theorem d_L_law_914 : decode code 914 = .ok (.iload 4, 2) := by decide +kernel
theorem d_L_law_916 : decode code 916 = .ok (.iconst 1, 1) := by decide +kernel
theorem d_L_law_917 : decode code 917 = .ok (.iadd, 1) := by decide +kernel
theorem d_L_law_918 : decode code 918 = .ok (.iaload, 1) := by decide +kernel
theorem d_L_law_919 : decode code 919 = .ok (.aload_n 3, 1) := by decide +kernel
theorem d_L_law_920 : decode code 920 = .ok (.invokestatic 127, 3) := by decide +kernel
theorem d_L_law_923 : decode code 923 = .ok (.istore 5, 2) := by decide +kernel
theorem d_L_law_925 : decode code 925 = .ok (.aload_n 2, 1) := by decide +kernel
theorem d_L_law_926 : decode code 926 = .ok (.aload_n 0, 1) := by decide +kernel
theorem d_L_law_927 : decode code 927 = .ok (.iload 4, 2) := by decide +kernel
theorem d_L_law_929 : decode code 929 = .ok (.iconst 1, 1) := by decide +kernel
theorem d_L_law_930 : decode code 930 = .ok (.iadd, 1) := by decide +kernel
theorem d_L_law_931 : decode code 931 = .ok (.iaload, 1) := by decide +kernel
theorem d_L_law_932 : decode code 932 = .ok (.invokevirtual 130, 3) := by decide +kernel
theorem d_L_law_935 : decode code 935 = .ok (.istore 6, 2) := by decide +kernel
theorem d_L_law_937 : decode code 937 = .ok (.aload_n 2, 1) := by decide +kernel
theorem d_L_law_938 : decode code 938 = .ok (.invokevirtual 70, 3) := by decide +kernel
theorem d_L_law_941 : decode code 941 = .ok (.iload 5, 2) := by decide +kernel
theorem d_L_law_943 : decode code 943 = .ok (.if_icmp .eq 5, 3) := by decide +kernel
theorem d_L_law_948 : decode code 948 = .ok (.iload 5, 2) := by decide +kernel
theorem d_L_law_950 : decode code 950 = .ok (.ifCond .ne 15, 3) := by decide +kernel
theorem d_L_law_965 : decode code 965 = .ok (.goto 28, 3) := by decide +kernel
theorem d_L_law_968 : decode code 968 = .ok (.aload_n 1, 1) := by decide +kernel
theorem d_L_law_969 : decode code 969 = .ok (.aload_n 0, 1) := by decide +kernel
theorem d_L_law_970 : decode code 970 = .ok (.iload 4, 2) := by decide +kernel
theorem d_L_law_972 : decode code 972 = .ok (.iconst 1, 1) := by decide +kernel
theorem d_L_law_973 : decode code 973 = .ok (.iadd, 1) := by decide +kernel
theorem d_L_law_974 : decode code 974 = .ok (.iaload, 1) := by decide +kernel
theorem d_L_law_975 : decode code 975 = .ok (.invokevirtual 131, 3) := by decide +kernel
theorem d_L_law_978 : decode code 978 = .ok (.aload_n 2, 1) := by decide +kernel
theorem d_L_law_979 : decode code 979 = .ok (.aload_n 0, 1) := by decide +kernel
theorem d_L_law_980 : decode code 980 = .ok (.iload 4, 2) := by decide +kernel
theorem d_L_law_982 : decode code 982 = .ok (.iconst 1, 1) := by decide +kernel
theorem d_L_law_983 : decode code 983 = .ok (.iadd, 1) := by decide +kernel
theorem d_L_law_984 : decode code 984 = .ok (.iaload, 1) := by decide +kernel
theorem d_L_law_985 : decode code 985 = .ok (.invokevirtual 134, 3) := by decide +kernel
theorem d_L_law_988 : decode code 988 = .ok (.if_icmp .eq 5, 3) := by decide +kernel
theorem d_L_law_993 : decode code 993 = .ok (.iinc 4 6, 3) := by decide +kernel
theorem d_L_law_996 : decode code 996 = .ok (.goto (-973), 3) := by decide +kernel
theorem d_L_law_999 : decode code 999 = .ok (.iconst 1, 1) := by decide +kernel
theorem d_L_law_1000 : decode code 1000 = .ok (.ireturn, 1) := by decide +kernel
