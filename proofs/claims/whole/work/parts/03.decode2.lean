theorem d_R_formedBlock_284 : decode b_R_formedBlock 284 = .ok (.goto (-178), 3) := by decide +kernel
theorem d_R_formedBlock_287 : decode b_R_formedBlock 287 = .ok (.return_, 1) := by decide +kernel
theorem d_R_behind_0 : decode b_R_behind 0 = .ok (.aload_n 0, 1) := by decide +kernel
theorem d_R_behind_1 : decode b_R_behind 1 = .ok (.getfield 25, 3) := by decide +kernel
theorem d_R_behind_4 : decode b_R_behind 4 = .ok (.iload_n 1, 1) := by decide +kernel
theorem d_R_behind_5 : decode b_R_behind 5 = .ok (.iaload, 1) := by decide +kernel
theorem d_R_behind_6 : decode b_R_behind 6 = .ok (.ifCond .ne 5, 3) := by decide +kernel
theorem d_R_behind_9 : decode b_R_behind 9 = .ok (.iconst (-1), 1) := by decide +kernel
theorem d_R_behind_10 : decode b_R_behind 10 = .ok (.ireturn, 1) := by decide +kernel
theorem d_R_behind_11 : decode b_R_behind 11 = .ok (.aload_n 0, 1) := by decide +kernel
theorem d_R_behind_12 : decode b_R_behind 12 = .ok (.getfield 25, 3) := by decide +kernel
theorem d_R_behind_15 : decode b_R_behind 15 = .ok (.iload_n 1, 1) := by decide +kernel
theorem d_R_behind_16 : decode b_R_behind 16 = .ok (.iaload, 1) := by decide +kernel
theorem d_R_behind_17 : decode b_R_behind 17 = .ok (.iconst 1, 1) := by decide +kernel
theorem d_R_behind_18 : decode b_R_behind 18 = .ok (.if_icmp .ne 10, 3) := by decide +kernel
theorem d_R_behind_21 : decode b_R_behind 21 = .ok (.aload_n 0, 1) := by decide +kernel
theorem d_R_behind_22 : decode b_R_behind 22 = .ok (.getfield 31, 3) := by decide +kernel
theorem d_R_behind_25 : decode b_R_behind 25 = .ok (.iload_n 1, 1) := by decide +kernel
theorem d_R_behind_26 : decode b_R_behind 26 = .ok (.iaload, 1) := by decide +kernel
theorem d_R_behind_27 : decode b_R_behind 27 = .ok (.ireturn, 1) := by decide +kernel
theorem d_R_behind_28 : decode b_R_behind 28 = .ok (.iload_n 2, 1) := by decide +kernel
theorem d_R_behind_29 : decode b_R_behind 29 = .ok (.ifCond .eq 17, 3) := by decide +kernel
theorem d_R_behind_32 : decode b_R_behind 32 = .ok (.aload_n 0, 1) := by decide +kernel
theorem d_R_behind_33 : decode b_R_behind 33 = .ok (.getfield 95, 3) := by decide +kernel
theorem d_R_behind_36 : decode b_R_behind 36 = .ok (.aload_n 0, 1) := by decide +kernel
theorem d_R_behind_37 : decode b_R_behind 37 = .ok (.getfield 28, 3) := by decide +kernel
theorem d_R_behind_40 : decode b_R_behind 40 = .ok (.iload_n 1, 1) := by decide +kernel
theorem d_R_behind_41 : decode b_R_behind 41 = .ok (.iaload, 1) := by decide +kernel
theorem d_R_behind_42 : decode b_R_behind 42 = .ok (.iaload, 1) := by decide +kernel
theorem d_R_behind_43 : decode b_R_behind 43 = .ok (.goto 13, 3) := by decide +kernel
theorem d_R_behind_46 : decode b_R_behind 46 = .ok (.aload_n 0, 1) := by decide +kernel
theorem d_R_behind_47 : decode b_R_behind 47 = .ok (.aload_n 0, 1) := by decide +kernel
theorem d_R_behind_48 : decode b_R_behind 48 = .ok (.getfield 67, 3) := by decide +kernel
theorem d_R_behind_51 : decode b_R_behind 51 = .ok (.iload_n 1, 1) := by decide +kernel
theorem d_R_behind_52 : decode b_R_behind 52 = .ok (.iaload, 1) := by decide +kernel
theorem d_R_behind_53 : decode b_R_behind 53 = .ok (.invokevirtual 239, 3) := by decide +kernel
theorem d_R_behind_56 : decode b_R_behind 56 = .ok (.istore_n 3, 1) := by decide +kernel
theorem d_R_behind_57 : decode b_R_behind 57 = .ok (.iload_n 3, 1) := by decide +kernel
theorem d_R_behind_58 : decode b_R_behind 58 = .ok (.ifCond .eq 12, 3) := by decide +kernel
theorem d_R_behind_61 : decode b_R_behind 61 = .ok (.aload_n 0, 1) := by decide +kernel
theorem d_R_behind_62 : decode b_R_behind 62 = .ok (.getfield 31, 3) := by decide +kernel
theorem d_R_behind_65 : decode b_R_behind 65 = .ok (.iload_n 1, 1) := by decide +kernel
theorem d_R_behind_66 : decode b_R_behind 66 = .ok (.iaload, 1) := by decide +kernel
theorem d_R_behind_67 : decode b_R_behind 67 = .ok (.goto 9, 3) := by decide +kernel
theorem d_R_behind_70 : decode b_R_behind 70 = .ok (.aload_n 0, 1) := by decide +kernel
theorem d_R_behind_71 : decode b_R_behind 71 = .ok (.getfield 34, 3) := by decide +kernel
theorem d_R_behind_74 : decode b_R_behind 74 = .ok (.iload_n 1, 1) := by decide +kernel
theorem d_R_behind_75 : decode b_R_behind 75 = .ok (.iaload, 1) := by decide +kernel
theorem d_R_behind_76 : decode b_R_behind 76 = .ok (.ireturn, 1) := by decide +kernel
theorem d_R_run_0 : decode b_R_run 0 = .ok (.aload_n 0, 1) := by decide +kernel
theorem d_R_run_1 : decode b_R_run 1 = .ok (.iload_n 2, 1) := by decide +kernel
theorem d_R_run_2 : decode b_R_run 2 = .ok (.ifCond .lt 10, 3) := by decide +kernel
theorem d_R_run_5 : decode b_R_run 5 = .ok (.iload_n 2, 1) := by decide +kernel
theorem d_R_run_6 : decode b_R_run 6 = .ok (.sipush 200, 3) := by decide +kernel
theorem d_R_run_9 : decode b_R_run 9 = .ok (.if_icmp .le 7, 3) := by decide +kernel
theorem d_R_run_12 : decode b_R_run 12 = .ok (.iconst 1, 1) := by decide +kernel
theorem d_R_run_13 : decode b_R_run 13 = .ok (.goto 4, 3) := by decide +kernel
theorem d_R_run_16 : decode b_R_run 16 = .ok (.iconst 0, 1) := by decide +kernel
theorem d_R_run_17 : decode b_R_run 17 = .ok (.iconst 1, 1) := by decide +kernel
theorem d_R_run_18 : decode b_R_run 18 = .ok (.invokevirtual 108, 3) := by decide +kernel
theorem d_R_run_21 : decode b_R_run 21 = .ok (.ifCond .ne 23, 3) := by decide +kernel
theorem d_R_run_24 : decode b_R_run 24 = .ok (.aload_n 0, 1) := by decide +kernel
theorem d_R_run_25 : decode b_R_run 25 = .ok (.aload_n 0, 1) := by decide +kernel
theorem d_R_run_26 : decode b_R_run 26 = .ok (.getfield 112, 3) := by decide +kernel
theorem d_R_run_29 : decode b_R_run 29 = .ok (.ifCond .ne 7, 3) := by decide +kernel
theorem d_R_run_32 : decode b_R_run 32 = .ok (.iconst 1, 1) := by decide +kernel
theorem d_R_run_33 : decode b_R_run 33 = .ok (.goto 4, 3) := by decide +kernel
theorem d_R_run_36 : decode b_R_run 36 = .ok (.iconst 0, 1) := by decide +kernel
theorem d_R_run_37 : decode b_R_run 37 = .ok (.iconst 2, 1) := by decide +kernel
theorem d_R_run_38 : decode b_R_run 38 = .ok (.invokevirtual 108, 3) := by decide +kernel
theorem d_R_run_41 : decode b_R_run 41 = .ok (.ifCond .eq 5, 3) := by decide +kernel
theorem d_R_run_44 : decode b_R_run 44 = .ok (.iconst 0, 1) := by decide +kernel
theorem d_R_run_45 : decode b_R_run 45 = .ok (.ireturn, 1) := by decide +kernel
theorem d_R_run_46 : decode b_R_run 46 = .ok (.aload_n 0, 1) := by decide +kernel
theorem d_R_run_47 : decode b_R_run 47 = .ok (.iconst 0, 1) := by decide +kernel
theorem d_R_run_48 : decode b_R_run 48 = .ok (.putfield 220, 3) := by decide +kernel
theorem d_R_run_51 : decode b_R_run 51 = .ok (.aload_n 0, 1) := by decide +kernel
theorem d_R_run_52 : decode b_R_run 52 = .ok (.iconst 0, 1) := by decide +kernel
theorem d_R_run_53 : decode b_R_run 53 = .ok (.putfield 242, 3) := by decide +kernel
theorem d_R_run_56 : decode b_R_run 56 = .ok (.aload_n 0, 1) := by decide +kernel
theorem d_R_run_57 : decode b_R_run 57 = .ok (.iconst 0, 1) := by decide +kernel
theorem d_R_run_58 : decode b_R_run 58 = .ok (.putfield 230, 3) := by decide +kernel
theorem d_R_run_61 : decode b_R_run 61 = .ok (.aload_n 0, 1) := by decide +kernel
theorem d_R_run_62 : decode b_R_run 62 = .ok (.iconst 0, 1) := by decide +kernel
theorem d_R_run_63 : decode b_R_run 63 = .ok (.putfield 223, 3) := by decide +kernel
theorem d_R_run_66 : decode b_R_run 66 = .ok (.iconst 0, 1) := by decide +kernel
theorem d_R_run_67 : decode b_R_run 67 = .ok (.istore_n 3, 1) := by decide +kernel
theorem d_R_run_68 : decode b_R_run 68 = .ok (.iload_n 3, 1) := by decide +kernel
theorem d_R_run_69 : decode b_R_run 69 = .ok (.sipush 130, 3) := by decide +kernel
theorem d_R_run_72 : decode b_R_run 72 = .ok (.if_icmp .ge 16, 3) := by decide +kernel
theorem d_R_run_75 : decode b_R_run 75 = .ok (.aload_n 0, 1) := by decide +kernel
theorem d_R_run_76 : decode b_R_run 76 = .ok (.getfield 95, 3) := by decide +kernel
theorem d_R_run_79 : decode b_R_run 79 = .ok (.iload_n 3, 1) := by decide +kernel
theorem d_R_run_80 : decode b_R_run 80 = .ok (.iconst 0, 1) := by decide +kernel
theorem d_R_run_81 : decode b_R_run 81 = .ok (.iastore, 1) := by decide +kernel
theorem d_R_run_82 : decode b_R_run 82 = .ok (.iinc 3 1, 3) := by decide +kernel
theorem d_R_run_85 : decode b_R_run 85 = .ok (.goto (-17), 3) := by decide +kernel
theorem d_R_run_88 : decode b_R_run 88 = .ok (.iconst 0, 1) := by decide +kernel
theorem d_R_run_89 : decode b_R_run 89 = .ok (.istore_n 3, 1) := by decide +kernel
theorem d_R_run_90 : decode b_R_run 90 = .ok (.iconst 0, 1) := by decide +kernel
theorem d_R_run_91 : decode b_R_run 91 = .ok (.istore 4, 2) := by decide +kernel
theorem d_R_run_93 : decode b_R_run 93 = .ok (.iload_n 3, 1) := by decide +kernel
theorem d_R_run_94 : decode b_R_run 94 = .ok (.ifCond .lt 53, 3) := by decide +kernel
theorem d_R_run_97 : decode b_R_run 97 = .ok (.aload_n 0, 1) := by decide +kernel
theorem d_R_run_98 : decode b_R_run 98 = .ok (.getfield 242, 3) := by decide +kernel
theorem d_R_run_101 : decode b_R_run 101 = .ok (.iload_n 2, 1) := by decide +kernel
theorem d_R_run_102 : decode b_R_run 102 = .ok (.if_icmp .ge 45, 3) := by decide +kernel
theorem d_R_run_105 : decode b_R_run 105 = .ok (.aload_n 0, 1) := by decide +kernel
theorem d_R_run_106 : decode b_R_run 106 = .ok (.dup, 1) := by decide +kernel
theorem d_R_run_107 : decode b_R_run 107 = .ok (.getfield 242, 3) := by decide +kernel
theorem d_R_run_110 : decode b_R_run 110 = .ok (.iconst 1, 1) := by decide +kernel
theorem d_R_run_111 : decode b_R_run 111 = .ok (.iadd, 1) := by decide +kernel
theorem d_R_run_112 : decode b_R_run 112 = .ok (.putfield 242, 3) := by decide +kernel
theorem d_R_run_115 : decode b_R_run 115 = .ok (.iload_n 1, 1) := by decide +kernel
theorem d_R_run_116 : decode b_R_run 116 = .ok (.ifCond .eq 11, 3) := by decide +kernel
theorem d_R_run_119 : decode b_R_run 119 = .ok (.aload_n 0, 1) := by decide +kernel
theorem d_R_run_120 : decode b_R_run 120 = .ok (.iload_n 3, 1) := by decide +kernel
theorem d_R_run_121 : decode b_R_run 121 = .ok (.invokevirtual 245, 3) := by decide +kernel
theorem d_R_run_124 : decode b_R_run 124 = .ok (.goto 10, 3) := by decide +kernel
theorem d_R_run_127 : decode b_R_run 127 = .ok (.aload_n 0, 1) := by decide +kernel
theorem d_R_run_128 : decode b_R_run 128 = .ok (.iload_n 3, 1) := by decide +kernel
theorem d_R_run_129 : decode b_R_run 129 = .ok (.iload 4, 2) := by decide +kernel
theorem d_R_run_131 : decode b_R_run 131 = .ok (.invokevirtual 248, 3) := by decide +kernel
theorem d_R_run_134 : decode b_R_run 134 = .ok (.iload_n 3, 1) := by decide +kernel
theorem d_R_run_135 : decode b_R_run 135 = .ok (.istore 4, 2) := by decide +kernel
theorem d_R_run_137 : decode b_R_run 137 = .ok (.aload_n 0, 1) := by decide +kernel
theorem d_R_run_138 : decode b_R_run 138 = .ok (.iload_n 3, 1) := by decide +kernel
theorem d_R_run_139 : decode b_R_run 139 = .ok (.iload_n 1, 1) := by decide +kernel
theorem d_R_run_140 : decode b_R_run 140 = .ok (.invokevirtual 252, 3) := by decide +kernel
theorem d_R_run_143 : decode b_R_run 143 = .ok (.istore_n 3, 1) := by decide +kernel
theorem d_R_run_144 : decode b_R_run 144 = .ok (.goto (-51), 3) := by decide +kernel
theorem d_R_run_147 : decode b_R_run 147 = .ok (.iload_n 3, 1) := by decide +kernel
theorem d_R_run_148 : decode b_R_run 148 = .ok (.ifCond .ge 7, 3) := by decide +kernel
theorem d_R_run_151 : decode b_R_run 151 = .ok (.iconst 0, 1) := by decide +kernel
theorem d_R_run_152 : decode b_R_run 152 = .ok (.goto 4, 3) := by decide +kernel
theorem d_R_run_155 : decode b_R_run 155 = .ok (.iconst 1, 1) := by decide +kernel
theorem d_R_run_156 : decode b_R_run 156 = .ok (.ireturn, 1) := by decide +kernel
theorem d_R_told_0 : decode b_R_told 0 = .ok (.aload_n 0, 1) := by decide +kernel
theorem d_R_told_1 : decode b_R_told 1 = .ok (.iconst 0, 1) := by decide +kernel
theorem d_R_told_2 : decode b_R_told 2 = .ok (.putfield 101, 3) := by decide +kernel
theorem d_R_told_5 : decode b_R_told 5 = .ok (.aload_n 0, 1) := by decide +kernel
theorem d_R_told_6 : decode b_R_told 6 = .ok (.getfield 220, 3) := by decide +kernel
theorem d_R_told_9 : decode b_R_told 9 = .ok (.ireturn, 1) := by decide +kernel
theorem d_R_heard_0 : decode b_R_heard 0 = .ok (.aload_n 0, 1) := by decide +kernel
theorem d_R_heard_1 : decode b_R_heard 1 = .ok (.iload_n 1, 1) := by decide +kernel
theorem d_R_heard_2 : decode b_R_heard 2 = .ok (.ifCond .lt 17, 3) := by decide +kernel
theorem d_R_heard_5 : decode b_R_heard 5 = .ok (.iload_n 1, 1) := by decide +kernel
theorem d_R_heard_6 : decode b_R_heard 6 = .ok (.aload_n 0, 1) := by decide +kernel
theorem d_R_heard_7 : decode b_R_heard 7 = .ok (.getfield 220, 3) := by decide +kernel
theorem d_R_heard_10 : decode b_R_heard 10 = .ok (.if_icmp .ge 9, 3) := by decide +kernel
theorem d_R_heard_13 : decode b_R_heard 13 = .ok (.iload_n 1, 1) := by decide +kernel
theorem d_R_heard_14 : decode b_R_heard 14 = .ok (.bipush 40, 2) := by decide +kernel
theorem d_R_heard_16 : decode b_R_heard 16 = .ok (.if_icmp .lt 7, 3) := by decide +kernel
theorem d_R_heard_19 : decode b_R_heard 19 = .ok (.iconst 1, 1) := by decide +kernel
theorem d_R_heard_20 : decode b_R_heard 20 = .ok (.goto 4, 3) := by decide +kernel
theorem d_R_heard_23 : decode b_R_heard 23 = .ok (.iconst 0, 1) := by decide +kernel
theorem d_R_heard_24 : decode b_R_heard 24 = .ok (.iconst 1, 1) := by decide +kernel
theorem d_R_heard_25 : decode b_R_heard 25 = .ok (.invokevirtual 108, 3) := by decide +kernel
theorem d_R_heard_28 : decode b_R_heard 28 = .ok (.ifCond .eq 7, 3) := by decide +kernel
theorem d_R_heard_31 : decode b_R_heard 31 = .ok (.iconst 0, 1) := by decide +kernel
theorem d_R_heard_32 : decode b_R_heard 32 = .ok (.goto 9, 3) := by decide +kernel
theorem d_R_heard_35 : decode b_R_heard 35 = .ok (.aload_n 0, 1) := by decide +kernel
theorem d_R_heard_36 : decode b_R_heard 36 = .ok (.getfield 92, 3) := by decide +kernel
theorem d_R_heard_39 : decode b_R_heard 39 = .ok (.iload_n 1, 1) := by decide +kernel
theorem d_R_heard_40 : decode b_R_heard 40 = .ok (.iaload, 1) := by decide +kernel
theorem d_R_heard_41 : decode b_R_heard 41 = .ok (.ireturn, 1) := by decide +kernel
theorem d_R_spent_0 : decode b_R_spent 0 = .ok (.aload_n 0, 1) := by decide +kernel
theorem d_R_spent_1 : decode b_R_spent 1 = .ok (.iconst 0, 1) := by decide +kernel
theorem d_R_spent_2 : decode b_R_spent 2 = .ok (.putfield 101, 3) := by decide +kernel
theorem d_R_spent_5 : decode b_R_spent 5 = .ok (.iload_n 1, 1) := by decide +kernel
theorem d_R_spent_6 : decode b_R_spent 6 = .ok (.ifCond .ne 10, 3) := by decide +kernel
theorem d_R_spent_9 : decode b_R_spent 9 = .ok (.aload_n 0, 1) := by decide +kernel
theorem d_R_spent_10 : decode b_R_spent 10 = .ok (.getfield 242, 3) := by decide +kernel
theorem d_R_spent_13 : decode b_R_spent 13 = .ok (.goto 28, 3) := by decide +kernel
theorem d_R_spent_16 : decode b_R_spent 16 = .ok (.iload_n 1, 1) := by decide +kernel
theorem d_R_spent_17 : decode b_R_spent 17 = .ok (.iconst 1, 1) := by decide +kernel
theorem d_R_spent_18 : decode b_R_spent 18 = .ok (.if_icmp .ne 10, 3) := by decide +kernel
theorem d_R_spent_21 : decode b_R_spent 21 = .ok (.aload_n 0, 1) := by decide +kernel
theorem d_R_spent_22 : decode b_R_spent 22 = .ok (.getfield 230, 3) := by decide +kernel
theorem d_R_spent_25 : decode b_R_spent 25 = .ok (.goto 16, 3) := by decide +kernel
theorem d_R_spent_28 : decode b_R_spent 28 = .ok (.iload_n 1, 1) := by decide +kernel
theorem d_R_spent_29 : decode b_R_spent 29 = .ok (.iconst 2, 1) := by decide +kernel
theorem d_R_spent_30 : decode b_R_spent 30 = .ok (.if_icmp .ne 10, 3) := by decide +kernel
theorem d_R_spent_33 : decode b_R_spent 33 = .ok (.aload_n 0, 1) := by decide +kernel
theorem d_R_spent_34 : decode b_R_spent 34 = .ok (.getfield 223, 3) := by decide +kernel
theorem d_R_spent_37 : decode b_R_spent 37 = .ok (.goto 4, 3) := by decide +kernel
theorem d_R_spent_40 : decode b_R_spent 40 = .ok (.iconst (-1), 1) := by decide +kernel
theorem d_R_spent_41 : decode b_R_spent 41 = .ok (.ireturn, 1) := by decide +kernel
theorem d_K_settle_0 : decode b_K_settle 0 = .ok (.aload_n 0, 1) := by decide +kernel
theorem d_K_settle_1 : decode b_K_settle 1 = .ok (.getfield 9, 3) := by decide +kernel
theorem d_K_settle_4 : decode b_K_settle 4 = .ok (.iconst 0, 1) := by decide +kernel
theorem d_K_settle_5 : decode b_K_settle 5 = .ok (.invokestatic 33, 3) := by decide +kernel
theorem d_K_settle_8 : decode b_K_settle 8 = .ok (.aload_n 0, 1) := by decide +kernel
theorem d_K_settle_9 : decode b_K_settle 9 = .ok (.getfield 15, 3) := by decide +kernel
theorem d_K_settle_12 : decode b_K_settle 12 = .ok (.iconst 0, 1) := by decide +kernel
theorem d_K_settle_13 : decode b_K_settle 13 = .ok (.invokestatic 33, 3) := by decide +kernel
theorem d_K_settle_16 : decode b_K_settle 16 = .ok (.aload_n 0, 1) := by decide +kernel
theorem d_K_settle_17 : decode b_K_settle 17 = .ok (.getfield 18, 3) := by decide +kernel
theorem d_K_settle_20 : decode b_K_settle 20 = .ok (.iconst 0, 1) := by decide +kernel
theorem d_K_settle_21 : decode b_K_settle 21 = .ok (.invokestatic 33, 3) := by decide +kernel
theorem d_K_settle_24 : decode b_K_settle 24 = .ok (.iconst 0, 1) := by decide +kernel
theorem d_K_settle_25 : decode b_K_settle 25 = .ok (.istore_n 1, 1) := by decide +kernel
theorem d_K_settle_26 : decode b_K_settle 26 = .ok (.iload_n 1, 1) := by decide +kernel
theorem d_K_settle_27 : decode b_K_settle 27 = .ok (.bipush 6, 2) := by decide +kernel
theorem d_K_settle_29 : decode b_K_settle 29 = .ok (.if_icmp .ge 16, 3) := by decide +kernel
theorem d_K_settle_32 : decode b_K_settle 32 = .ok (.aload_n 0, 1) := by decide +kernel
theorem d_K_settle_33 : decode b_K_settle 33 = .ok (.getfield 15, 3) := by decide +kernel
theorem d_K_settle_36 : decode b_K_settle 36 = .ok (.iload_n 1, 1) := by decide +kernel
theorem d_K_settle_37 : decode b_K_settle 37 = .ok (.iconst 1, 1) := by decide +kernel
theorem d_K_settle_38 : decode b_K_settle 38 = .ok (.iastore, 1) := by decide +kernel
theorem d_K_settle_39 : decode b_K_settle 39 = .ok (.iinc 1 1, 3) := by decide +kernel
theorem d_K_settle_42 : decode b_K_settle 42 = .ok (.goto (-16), 3) := by decide +kernel
theorem d_K_settle_45 : decode b_K_settle 45 = .ok (.aload_n 0, 1) := by decide +kernel
theorem d_K_settle_46 : decode b_K_settle 46 = .ok (.iconst 0, 1) := by decide +kernel
theorem d_K_settle_47 : decode b_K_settle 47 = .ok (.invokestatic 39, 3) := by decide +kernel
theorem d_K_settle_50 : decode b_K_settle 50 = .ok (.putfield 43, 3) := by decide +kernel
theorem d_K_settle_53 : decode b_K_settle 53 = .ok (.aload_n 0, 1) := by decide +kernel
theorem d_K_settle_54 : decode b_K_settle 54 = .ok (.iconst 1, 1) := by decide +kernel
theorem d_K_settle_55 : decode b_K_settle 55 = .ok (.putfield 47, 3) := by decide +kernel
theorem d_K_settle_58 : decode b_K_settle 58 = .ok (.iconst 0, 1) := by decide +kernel
theorem d_K_settle_59 : decode b_K_settle 59 = .ok (.istore_n 1, 1) := by decide +kernel
theorem d_K_settle_60 : decode b_K_settle 60 = .ok (.aload_n 0, 1) := by decide +kernel
theorem d_K_settle_61 : decode b_K_settle 61 = .ok (.getfield 47, 3) := by decide +kernel
theorem d_K_settle_64 : decode b_K_settle 64 = .ok (.ifCond .eq 72, 3) := by decide +kernel
theorem d_K_settle_67 : decode b_K_settle 67 = .ok (.iload_n 1, 1) := by decide +kernel
theorem d_K_settle_68 : decode b_K_settle 68 = .ok (.sipush 1000, 3) := by decide +kernel
theorem d_K_settle_71 : decode b_K_settle 71 = .ok (.if_icmp .ge 65, 3) := by decide +kernel
theorem d_K_settle_74 : decode b_K_settle 74 = .ok (.aload_n 0, 1) := by decide +kernel
theorem d_K_settle_75 : decode b_K_settle 75 = .ok (.iconst 0, 1) := by decide +kernel
theorem d_K_settle_76 : decode b_K_settle 76 = .ok (.putfield 47, 3) := by decide +kernel
theorem d_K_settle_79 : decode b_K_settle 79 = .ok (.iconst 0, 1) := by decide +kernel
theorem d_K_settle_80 : decode b_K_settle 80 = .ok (.istore_n 2, 1) := by decide +kernel
theorem d_K_settle_81 : decode b_K_settle 81 = .ok (.iload_n 2, 1) := by decide +kernel
theorem d_K_settle_82 : decode b_K_settle 82 = .ok (.aload_n 0, 1) := by decide +kernel
theorem d_K_settle_83 : decode b_K_settle 83 = .ok (.getfield 25, 3) := by decide +kernel
theorem d_K_settle_86 : decode b_K_settle 86 = .ok (.getfield 51, 3) := by decide +kernel
theorem d_K_settle_89 : decode b_K_settle 89 = .ok (.if_icmp .ge 41, 3) := by decide +kernel
theorem d_K_settle_92 : decode b_K_settle 92 = .ok (.aload_n 0, 1) := by decide +kernel
theorem d_K_settle_93 : decode b_K_settle 93 = .ok (.getfield 43, 3) := by decide +kernel
theorem d_K_settle_96 : decode b_K_settle 96 = .ok (.aload_n 0, 1) := by decide +kernel
theorem d_K_settle_97 : decode b_K_settle 97 = .ok (.getfield 25, 3) := by decide +kernel
theorem d_K_settle_100 : decode b_K_settle 100 = .ok (.getfield 56, 3) := by decide +kernel
theorem d_K_settle_103 : decode b_K_settle 103 = .ok (.iload_n 2, 1) := by decide +kernel
theorem d_K_settle_104 : decode b_K_settle 104 = .ok (.iaload, 1) := by decide +kernel
theorem d_K_settle_105 : decode b_K_settle 105 = .ok (.invokestatic 59, 3) := by decide +kernel
theorem d_K_settle_108 : decode b_K_settle 108 = .ok (.ifCond .eq 16, 3) := by decide +kernel
theorem d_K_settle_111 : decode b_K_settle 111 = .ok (.aload_n 0, 1) := by decide +kernel
theorem d_K_settle_112 : decode b_K_settle 112 = .ok (.aload_n 0, 1) := by decide +kernel
theorem d_K_settle_113 : decode b_K_settle 113 = .ok (.getfield 25, 3) := by decide +kernel
theorem d_K_settle_116 : decode b_K_settle 116 = .ok (.getfield 56, 3) := by decide +kernel
theorem d_K_settle_119 : decode b_K_settle 119 = .ok (.iload_n 2, 1) := by decide +kernel
theorem d_K_settle_120 : decode b_K_settle 120 = .ok (.iaload, 1) := by decide +kernel
theorem d_K_settle_121 : decode b_K_settle 121 = .ok (.invokevirtual 63, 3) := by decide +kernel
theorem d_K_settle_124 : decode b_K_settle 124 = .ok (.iinc 2 1, 3) := by decide +kernel
theorem d_K_settle_127 : decode b_K_settle 127 = .ok (.goto (-46), 3) := by decide +kernel
theorem d_K_settle_130 : decode b_K_settle 130 = .ok (.iinc 1 1, 3) := by decide +kernel
theorem d_K_settle_133 : decode b_K_settle 133 = .ok (.goto (-73), 3) := by decide +kernel
theorem d_K_settle_136 : decode b_K_settle 136 = .ok (.return_, 1) := by decide +kernel
theorem d_K_isWayTaken_0 : decode b_K_isWayTaken 0 = .ok (.aload_n 0, 1) := by decide +kernel
theorem d_K_isWayTaken_1 : decode b_K_isWayTaken 1 = .ok (.getfield 9, 3) := by decide +kernel
theorem d_K_isWayTaken_4 : decode b_K_isWayTaken 4 = .ok (.iload_n 1, 1) := by decide +kernel
theorem d_K_isWayTaken_5 : decode b_K_isWayTaken 5 = .ok (.iaload, 1) := by decide +kernel
theorem d_K_isWayTaken_6 : decode b_K_isWayTaken 6 = .ok (.iload_n 2, 1) := by decide +kernel
theorem d_K_isWayTaken_7 : decode b_K_isWayTaken 7 = .ok (.invokestatic 59, 3) := by decide +kernel
theorem d_K_isWayTaken_10 : decode b_K_isWayTaken 10 = .ok (.ireturn, 1) := by decide +kernel
theorem d_K_passBlock_0 : decode b_K_passBlock 0 = .ok (.iconst 0, 1) := by decide +kernel
theorem d_K_passBlock_1 : decode b_K_passBlock 1 = .ok (.istore_n 2, 1) := by decide +kernel
theorem d_K_passBlock_2 : decode b_K_passBlock 2 = .ok (.iload_n 2, 1) := by decide +kernel
theorem d_K_passBlock_3 : decode b_K_passBlock 3 = .ok (.bipush 6, 2) := by decide +kernel
theorem d_K_passBlock_5 : decode b_K_passBlock 5 = .ok (.if_icmp .ge 31, 3) := by decide +kernel
theorem d_K_passBlock_8 : decode b_K_passBlock 8 = .ok (.aload_n 0, 1) := by decide +kernel
theorem d_K_passBlock_9 : decode b_K_passBlock 9 = .ok (.getfield 29, 3) := by decide +kernel
theorem d_K_passBlock_12 : decode b_K_passBlock 12 = .ok (.getfield 67, 3) := by decide +kernel
theorem d_K_passBlock_15 : decode b_K_passBlock 15 = .ok (.iload_n 1, 1) := by decide +kernel
theorem d_K_passBlock_16 : decode b_K_passBlock 16 = .ok (.iaload, 1) := by decide +kernel
theorem d_K_passBlock_17 : decode b_K_passBlock 17 = .ok (.iload_n 2, 1) := by decide +kernel
theorem d_K_passBlock_18 : decode b_K_passBlock 18 = .ok (.invokestatic 59, 3) := by decide +kernel
theorem d_K_passBlock_21 : decode b_K_passBlock 21 = .ok (.ifCond .eq 9, 3) := by decide +kernel
theorem d_K_passBlock_24 : decode b_K_passBlock 24 = .ok (.aload_n 0, 1) := by decide +kernel
theorem d_K_passBlock_25 : decode b_K_passBlock 25 = .ok (.iload_n 1, 1) := by decide +kernel
theorem d_K_passBlock_26 : decode b_K_passBlock 26 = .ok (.iload_n 2, 1) := by decide +kernel
theorem d_K_passBlock_27 : decode b_K_passBlock 27 = .ok (.invokevirtual 72, 3) := by decide +kernel
theorem d_K_passBlock_30 : decode b_K_passBlock 30 = .ok (.iinc 2 1, 3) := by decide +kernel
theorem d_K_passBlock_33 : decode b_K_passBlock 33 = .ok (.goto (-31), 3) := by decide +kernel
theorem d_K_passBlock_36 : decode b_K_passBlock 36 = .ok (.iconst 0, 1) := by decide +kernel
theorem d_K_passBlock_37 : decode b_K_passBlock 37 = .ok (.istore_n 2, 1) := by decide +kernel
theorem d_K_passBlock_38 : decode b_K_passBlock 38 = .ok (.iload_n 2, 1) := by decide +kernel
theorem d_K_passBlock_39 : decode b_K_passBlock 39 = .ok (.aload_n 0, 1) := by decide +kernel
theorem d_K_passBlock_40 : decode b_K_passBlock 40 = .ok (.getfield 21, 3) := by decide +kernel
theorem d_K_passBlock_43 : decode b_K_passBlock 43 = .ok (.getfield 76, 3) := by decide +kernel
theorem d_K_passBlock_46 : decode b_K_passBlock 46 = .ok (.iload_n 1, 1) := by decide +kernel
theorem d_K_passBlock_47 : decode b_K_passBlock 47 = .ok (.iaload, 1) := by decide +kernel
theorem d_K_passBlock_48 : decode b_K_passBlock 48 = .ok (.if_icmp .ge 30, 3) := by decide +kernel
theorem d_K_passBlock_51 : decode b_K_passBlock 51 = .ok (.aload_n 0, 1) := by decide +kernel
theorem d_K_passBlock_52 : decode b_K_passBlock 52 = .ok (.getfield 29, 3) := by decide +kernel
theorem d_K_passBlock_55 : decode b_K_passBlock 55 = .ok (.getfield 81, 3) := by decide +kernel
theorem d_K_passBlock_58 : decode b_K_passBlock 58 = .ok (.iload_n 1, 1) := by decide +kernel
theorem d_K_passBlock_59 : decode b_K_passBlock 59 = .ok (.aaload, 1) := by decide +kernel
theorem d_K_passBlock_60 : decode b_K_passBlock 60 = .ok (.iload_n 2, 1) := by decide +kernel
theorem d_K_passBlock_61 : decode b_K_passBlock 61 = .ok (.iaload, 1) := by decide +kernel
theorem d_K_passBlock_62 : decode b_K_passBlock 62 = .ok (.iconst (-1), 1) := by decide +kernel
theorem d_K_passBlock_63 : decode b_K_passBlock 63 = .ok (.if_icmp .eq 9, 3) := by decide +kernel
theorem d_K_passBlock_66 : decode b_K_passBlock 66 = .ok (.aload_n 0, 1) := by decide +kernel
theorem d_K_passBlock_67 : decode b_K_passBlock 67 = .ok (.iload_n 1, 1) := by decide +kernel
theorem d_K_passBlock_68 : decode b_K_passBlock 68 = .ok (.iload_n 2, 1) := by decide +kernel
theorem d_K_passBlock_69 : decode b_K_passBlock 69 = .ok (.invokevirtual 85, 3) := by decide +kernel
theorem d_K_passBlock_72 : decode b_K_passBlock 72 = .ok (.iinc 2 1, 3) := by decide +kernel
theorem d_K_passBlock_75 : decode b_K_passBlock 75 = .ok (.goto (-37), 3) := by decide +kernel
theorem d_K_passBlock_78 : decode b_K_passBlock 78 = .ok (.aload_n 0, 1) := by decide +kernel
theorem d_K_passBlock_79 : decode b_K_passBlock 79 = .ok (.iload_n 1, 1) := by decide +kernel
theorem d_K_passBlock_80 : decode b_K_passBlock 80 = .ok (.invokevirtual 88, 3) := by decide +kernel
theorem d_K_passBlock_83 : decode b_K_passBlock 83 = .ok (.return_, 1) := by decide +kernel
theorem d_K_passPhi_0 : decode b_K_passPhi 0 = .ok (.iconst 0, 1) := by decide +kernel
theorem d_K_passPhi_1 : decode b_K_passPhi 1 = .ok (.istore_n 3, 1) := by decide +kernel
theorem d_K_passPhi_2 : decode b_K_passPhi 2 = .ok (.iload_n 3, 1) := by decide +kernel
theorem d_K_passPhi_3 : decode b_K_passPhi 3 = .ok (.aload_n 0, 1) := by decide +kernel
theorem d_K_passPhi_4 : decode b_K_passPhi 4 = .ok (.getfield 21, 3) := by decide +kernel
theorem d_K_passPhi_7 : decode b_K_passPhi 7 = .ok (.getfield 91, 3) := by decide +kernel
theorem d_K_passPhi_10 : decode b_K_passPhi 10 = .ok (.if_icmp .ge 60, 3) := by decide +kernel
theorem d_K_passPhi_13 : decode b_K_passPhi 13 = .ok (.aload_n 0, 1) := by decide +kernel
theorem d_K_passPhi_14 : decode b_K_passPhi 14 = .ok (.iload_n 3, 1) := by decide +kernel
theorem d_K_passPhi_15 : decode b_K_passPhi 15 = .ok (.iload_n 1, 1) := by decide +kernel
theorem d_K_passPhi_16 : decode b_K_passPhi 16 = .ok (.invokevirtual 94, 3) := by decide +kernel
theorem d_K_passPhi_19 : decode b_K_passPhi 19 = .ok (.ifCond .eq 45, 3) := by decide +kernel
theorem d_K_passPhi_22 : decode b_K_passPhi 22 = .ok (.aload_n 0, 1) := by decide +kernel
theorem d_K_passPhi_23 : decode b_K_passPhi 23 = .ok (.getfield 29, 3) := by decide +kernel
theorem d_K_passPhi_26 : decode b_K_passPhi 26 = .ok (.getfield 97, 3) := by decide +kernel
theorem d_K_passPhi_29 : decode b_K_passPhi 29 = .ok (.iload_n 3, 1) := by decide +kernel
theorem d_K_passPhi_30 : decode b_K_passPhi 30 = .ok (.aaload, 1) := by decide +kernel
theorem d_K_passPhi_31 : decode b_K_passPhi 31 = .ok (.iload_n 2, 1) := by decide +kernel
theorem d_K_passPhi_32 : decode b_K_passPhi 32 = .ok (.iaload, 1) := by decide +kernel
theorem d_K_passPhi_33 : decode b_K_passPhi 33 = .ok (.istore 4, 2) := by decide +kernel
theorem d_K_passPhi_35 : decode b_K_passPhi 35 = .ok (.aload_n 0, 1) := by decide +kernel
theorem d_K_passPhi_36 : decode b_K_passPhi 36 = .ok (.aload_n 0, 1) := by decide +kernel
theorem d_K_passPhi_37 : decode b_K_passPhi 37 = .ok (.getfield 29, 3) := by decide +kernel
theorem d_K_passPhi_40 : decode b_K_passPhi 40 = .ok (.getfield 100, 3) := by decide +kernel
theorem d_K_passPhi_43 : decode b_K_passPhi 43 = .ok (.iload_n 1, 1) := by decide +kernel
theorem d_K_passPhi_44 : decode b_K_passPhi 44 = .ok (.aaload, 1) := by decide +kernel
theorem d_K_passPhi_45 : decode b_K_passPhi 45 = .ok (.iload_n 2, 1) := by decide +kernel
theorem d_K_passPhi_46 : decode b_K_passPhi 46 = .ok (.iaload, 1) := by decide +kernel
theorem d_K_passPhi_47 : decode b_K_passPhi 47 = .ok (.aload_n 0, 1) := by decide +kernel
theorem d_K_passPhi_48 : decode b_K_passPhi 48 = .ok (.getfield 15, 3) := by decide +kernel
theorem d_K_passPhi_51 : decode b_K_passPhi 51 = .ok (.iload 4, 2) := by decide +kernel
theorem d_K_passPhi_53 : decode b_K_passPhi 53 = .ok (.iaload, 1) := by decide +kernel
theorem d_K_passPhi_54 : decode b_K_passPhi 54 = .ok (.aload_n 0, 1) := by decide +kernel
theorem d_K_passPhi_55 : decode b_K_passPhi 55 = .ok (.getfield 18, 3) := by decide +kernel
theorem d_K_passPhi_58 : decode b_K_passPhi 58 = .ok (.iload 4, 2) := by decide +kernel
theorem d_K_passPhi_60 : decode b_K_passPhi 60 = .ok (.iaload, 1) := by decide +kernel
theorem d_K_passPhi_61 : decode b_K_passPhi 61 = .ok (.invokevirtual 103, 3) := by decide +kernel
theorem d_K_passPhi_64 : decode b_K_passPhi 64 = .ok (.iinc 3 1, 3) := by decide +kernel
theorem d_K_passPhi_67 : decode b_K_passPhi 67 = .ok (.goto (-65), 3) := by decide +kernel
theorem d_K_passPhi_70 : decode b_K_passPhi 70 = .ok (.return_, 1) := by decide +kernel
theorem d_K_passInstruction_0 : decode b_K_passInstruction 0 = .ok (.aload_n 0, 1) := by decide +kernel
theorem d_K_passInstruction_1 : decode b_K_passInstruction 1 = .ok (.getfield 21, 3) := by decide +kernel
theorem d_K_passInstruction_4 : decode b_K_passInstruction 4 = .ok (.getfield 107, 3) := by decide +kernel
theorem d_K_passInstruction_7 : decode b_K_passInstruction 7 = .ok (.iload_n 1, 1) := by decide +kernel
theorem d_K_passInstruction_8 : decode b_K_passInstruction 8 = .ok (.aaload, 1) := by decide +kernel
theorem d_K_passInstruction_9 : decode b_K_passInstruction 9 = .ok (.iload_n 2, 1) := by decide +kernel
theorem d_K_passInstruction_10 : decode b_K_passInstruction 10 = .ok (.iaload, 1) := by decide +kernel
theorem d_K_passInstruction_11 : decode b_K_passInstruction 11 = .ok (.istore_n 3, 1) := by decide +kernel
theorem d_K_passInstruction_12 : decode b_K_passInstruction 12 = .ok (.aload_n 0, 1) := by decide +kernel
theorem d_K_passInstruction_13 : decode b_K_passInstruction 13 = .ok (.getfield 29, 3) := by decide +kernel
theorem d_K_passInstruction_16 : decode b_K_passInstruction 16 = .ok (.getfield 110, 3) := by decide +kernel
theorem d_K_passInstruction_19 : decode b_K_passInstruction 19 = .ok (.iload_n 1, 1) := by decide +kernel
theorem d_K_passInstruction_20 : decode b_K_passInstruction 20 = .ok (.aaload, 1) := by decide +kernel
theorem d_K_passInstruction_21 : decode b_K_passInstruction 21 = .ok (.iload_n 2, 1) := by decide +kernel
theorem d_K_passInstruction_22 : decode b_K_passInstruction 22 = .ok (.iaload, 1) := by decide +kernel
theorem d_K_passInstruction_23 : decode b_K_passInstruction 23 = .ok (.istore 4, 2) := by decide +kernel
theorem d_K_passInstruction_25 : decode b_K_passInstruction 25 = .ok (.aload_n 0, 1) := by decide +kernel
theorem d_K_passInstruction_26 : decode b_K_passInstruction 26 = .ok (.getfield 29, 3) := by decide +kernel
theorem d_K_passInstruction_29 : decode b_K_passInstruction 29 = .ok (.getfield 113, 3) := by decide +kernel
theorem d_K_passInstruction_32 : decode b_K_passInstruction 32 = .ok (.iload_n 1, 1) := by decide +kernel
theorem d_K_passInstruction_33 : decode b_K_passInstruction 33 = .ok (.aaload, 1) := by decide +kernel
theorem d_K_passInstruction_34 : decode b_K_passInstruction 34 = .ok (.iload_n 2, 1) := by decide +kernel
theorem d_K_passInstruction_35 : decode b_K_passInstruction 35 = .ok (.iaload, 1) := by decide +kernel
theorem d_K_passInstruction_36 : decode b_K_passInstruction 36 = .ok (.istore 5, 2) := by decide +kernel
theorem d_K_passInstruction_38 : decode b_K_passInstruction 38 = .ok (.iload 4, 2) := by decide +kernel
theorem d_K_passInstruction_40 : decode b_K_passInstruction 40 = .ok (.iconst (-1), 1) := by decide +kernel
theorem d_K_passInstruction_41 : decode b_K_passInstruction 41 = .ok (.if_icmp .ne 7, 3) := by decide +kernel
theorem d_K_passInstruction_44 : decode b_K_passInstruction 44 = .ok (.iconst 1, 1) := by decide +kernel
theorem d_K_passInstruction_45 : decode b_K_passInstruction 45 = .ok (.goto 10, 3) := by decide +kernel
theorem d_K_passInstruction_48 : decode b_K_passInstruction 48 = .ok (.aload_n 0, 1) := by decide +kernel
theorem d_K_passInstruction_49 : decode b_K_passInstruction 49 = .ok (.getfield 15, 3) := by decide +kernel
theorem d_K_passInstruction_52 : decode b_K_passInstruction 52 = .ok (.iload 4, 2) := by decide +kernel
theorem d_K_passInstruction_54 : decode b_K_passInstruction 54 = .ok (.iaload, 1) := by decide +kernel
theorem d_K_passInstruction_55 : decode b_K_passInstruction 55 = .ok (.istore 6, 2) := by decide +kernel
theorem d_K_passInstruction_57 : decode b_K_passInstruction 57 = .ok (.iload 5, 2) := by decide +kernel
theorem d_K_passInstruction_59 : decode b_K_passInstruction 59 = .ok (.iconst (-1), 1) := by decide +kernel
theorem d_K_passInstruction_60 : decode b_K_passInstruction 60 = .ok (.if_icmp .ne 7, 3) := by decide +kernel
theorem d_K_passInstruction_63 : decode b_K_passInstruction 63 = .ok (.iconst 1, 1) := by decide +kernel
theorem d_K_passInstruction_64 : decode b_K_passInstruction 64 = .ok (.goto 10, 3) := by decide +kernel
theorem d_K_passInstruction_67 : decode b_K_passInstruction 67 = .ok (.aload_n 0, 1) := by decide +kernel
theorem d_K_passInstruction_68 : decode b_K_passInstruction 68 = .ok (.getfield 15, 3) := by decide +kernel
theorem d_K_passInstruction_71 : decode b_K_passInstruction 71 = .ok (.iload 5, 2) := by decide +kernel
theorem d_K_passInstruction_73 : decode b_K_passInstruction 73 = .ok (.iaload, 1) := by decide +kernel
theorem d_K_passInstruction_74 : decode b_K_passInstruction 74 = .ok (.istore 7, 2) := by decide +kernel
theorem d_K_passInstruction_76 : decode b_K_passInstruction 76 = .ok (.aload_n 0, 1) := by decide +kernel
theorem d_K_passInstruction_77 : decode b_K_passInstruction 77 = .ok (.getfield 29, 3) := by decide +kernel
theorem d_K_passInstruction_80 : decode b_K_passInstruction 80 = .ok (.getfield 81, 3) := by decide +kernel
theorem d_K_passInstruction_83 : decode b_K_passInstruction 83 = .ok (.iload_n 1, 1) := by decide +kernel
theorem d_K_passInstruction_84 : decode b_K_passInstruction 84 = .ok (.aaload, 1) := by decide +kernel
theorem d_K_passInstruction_85 : decode b_K_passInstruction 85 = .ok (.iload_n 2, 1) := by decide +kernel
theorem d_K_passInstruction_86 : decode b_K_passInstruction 86 = .ok (.iaload, 1) := by decide +kernel
theorem d_K_passInstruction_87 : decode b_K_passInstruction 87 = .ok (.istore 8, 2) := by decide +kernel
theorem d_K_passInstruction_89 : decode b_K_passInstruction 89 = .ok (.iload_n 3, 1) := by decide +kernel
theorem d_K_passInstruction_90 : decode b_K_passInstruction 90 = .ok (.bipush 6, 2) := by decide +kernel
theorem d_K_passInstruction_92 : decode b_K_passInstruction 92 = .ok (.if_icmp .eq 15, 3) := by decide +kernel
theorem d_K_passInstruction_95 : decode b_K_passInstruction 95 = .ok (.iload 6, 2) := by decide +kernel
theorem d_K_passInstruction_97 : decode b_K_passInstruction 97 = .ok (.iconst 2, 1) := by decide +kernel
theorem d_K_passInstruction_98 : decode b_K_passInstruction 98 = .ok (.if_icmp .eq 9, 3) := by decide +kernel
theorem d_K_passInstruction_101 : decode b_K_passInstruction 101 = .ok (.iload 7, 2) := by decide +kernel
theorem d_K_passInstruction_103 : decode b_K_passInstruction 103 = .ok (.iconst 2, 1) := by decide +kernel
theorem d_K_passInstruction_104 : decode b_K_passInstruction 104 = .ok (.if_icmp .ne 14, 3) := by decide +kernel
theorem d_K_passInstruction_107 : decode b_K_passInstruction 107 = .ok (.aload_n 0, 1) := by decide +kernel
theorem d_K_passInstruction_108 : decode b_K_passInstruction 108 = .ok (.iload 8, 2) := by decide +kernel
theorem d_K_passInstruction_110 : decode b_K_passInstruction 110 = .ok (.iconst 2, 1) := by decide +kernel
theorem d_K_passInstruction_111 : decode b_K_passInstruction 111 = .ok (.iconst 0, 1) := by decide +kernel
theorem d_K_passInstruction_112 : decode b_K_passInstruction 112 = .ok (.invokevirtual 103, 3) := by decide +kernel
theorem d_K_passInstruction_115 : decode b_K_passInstruction 115 = .ok (.goto 78, 3) := by decide +kernel
theorem d_K_passInstruction_118 : decode b_K_passInstruction 118 = .ok (.iload 6, 2) := by decide +kernel
theorem d_K_passInstruction_120 : decode b_K_passInstruction 120 = .ok (.iconst 1, 1) := by decide +kernel
theorem d_K_passInstruction_121 : decode b_K_passInstruction 121 = .ok (.if_icmp .ne 72, 3) := by decide +kernel
theorem d_K_passInstruction_124 : decode b_K_passInstruction 124 = .ok (.iload 7, 2) := by decide +kernel
theorem d_K_passInstruction_126 : decode b_K_passInstruction 126 = .ok (.iconst 1, 1) := by decide +kernel
theorem d_K_passInstruction_127 : decode b_K_passInstruction 127 = .ok (.if_icmp .ne 66, 3) := by decide +kernel
theorem d_K_passInstruction_130 : decode b_K_passInstruction 130 = .ok (.iload 4, 2) := by decide +kernel
theorem d_K_passInstruction_132 : decode b_K_passInstruction 132 = .ok (.iconst (-1), 1) := by decide +kernel
theorem d_K_passInstruction_133 : decode b_K_passInstruction 133 = .ok (.if_icmp .ne 17, 3) := by decide +kernel
theorem d_K_passInstruction_136 : decode b_K_passInstruction 136 = .ok (.aload_n 0, 1) := by decide +kernel
theorem d_K_passInstruction_137 : decode b_K_passInstruction 137 = .ok (.getfield 21, 3) := by decide +kernel
theorem d_K_passInstruction_140 : decode b_K_passInstruction 140 = .ok (.getfield 116, 3) := by decide +kernel
theorem d_K_passInstruction_143 : decode b_K_passInstruction 143 = .ok (.iload_n 1, 1) := by decide +kernel
theorem d_K_passInstruction_144 : decode b_K_passInstruction 144 = .ok (.aaload, 1) := by decide +kernel
theorem d_K_passInstruction_145 : decode b_K_passInstruction 145 = .ok (.iload_n 2, 1) := by decide +kernel
theorem d_K_passInstruction_146 : decode b_K_passInstruction 146 = .ok (.iaload, 1) := by decide +kernel
theorem d_K_passInstruction_147 : decode b_K_passInstruction 147 = .ok (.goto 10, 3) := by decide +kernel
theorem d_K_passInstruction_150 : decode b_K_passInstruction 150 = .ok (.aload_n 0, 1) := by decide +kernel
theorem d_K_passInstruction_151 : decode b_K_passInstruction 151 = .ok (.getfield 18, 3) := by decide +kernel
theorem d_K_passInstruction_154 : decode b_K_passInstruction 154 = .ok (.iload 4, 2) := by decide +kernel
theorem d_K_passInstruction_156 : decode b_K_passInstruction 156 = .ok (.iaload, 1) := by decide +kernel
theorem d_K_passInstruction_157 : decode b_K_passInstruction 157 = .ok (.istore 9, 2) := by decide +kernel
theorem d_K_passInstruction_159 : decode b_K_passInstruction 159 = .ok (.iload 5, 2) := by decide +kernel
theorem d_K_passInstruction_161 : decode b_K_passInstruction 161 = .ok (.iconst (-1), 1) := by decide +kernel
theorem d_K_passInstruction_162 : decode b_K_passInstruction 162 = .ok (.if_icmp .ne 7, 3) := by decide +kernel
theorem d_K_passInstruction_165 : decode b_K_passInstruction 165 = .ok (.iconst 0, 1) := by decide +kernel
theorem d_K_passInstruction_166 : decode b_K_passInstruction 166 = .ok (.goto 10, 3) := by decide +kernel
theorem d_K_passInstruction_169 : decode b_K_passInstruction 169 = .ok (.aload_n 0, 1) := by decide +kernel
theorem d_K_passInstruction_170 : decode b_K_passInstruction 170 = .ok (.getfield 18, 3) := by decide +kernel
theorem d_K_passInstruction_173 : decode b_K_passInstruction 173 = .ok (.iload 5, 2) := by decide +kernel
theorem d_K_passInstruction_175 : decode b_K_passInstruction 175 = .ok (.iaload, 1) := by decide +kernel
theorem d_K_passInstruction_176 : decode b_K_passInstruction 176 = .ok (.istore 10, 2) := by decide +kernel
theorem d_K_passInstruction_178 : decode b_K_passInstruction 178 = .ok (.aload_n 0, 1) := by decide +kernel
theorem d_K_passInstruction_179 : decode b_K_passInstruction 179 = .ok (.iload 8, 2) := by decide +kernel
theorem d_K_passInstruction_181 : decode b_K_passInstruction 181 = .ok (.iconst 1, 1) := by decide +kernel
theorem d_K_passInstruction_182 : decode b_K_passInstruction 182 = .ok (.iload_n 3, 1) := by decide +kernel
theorem d_K_passInstruction_183 : decode b_K_passInstruction 183 = .ok (.iload 9, 2) := by decide +kernel
theorem d_K_passInstruction_185 : decode b_K_passInstruction 185 = .ok (.iload 10, 2) := by decide +kernel
theorem d_K_passInstruction_187 : decode b_K_passInstruction 187 = .ok (.invokestatic 119, 3) := by decide +kernel
theorem d_K_passInstruction_190 : decode b_K_passInstruction 190 = .ok (.invokevirtual 103, 3) := by decide +kernel
theorem d_K_passInstruction_193 : decode b_K_passInstruction 193 = .ok (.return_, 1) := by decide +kernel
theorem d_K_raise_0 : decode b_K_raise 0 = .ok (.iload_n 2, 1) := by decide +kernel
theorem d_K_raise_1 : decode b_K_raise 1 = .ok (.ifCond .eq 13, 3) := by decide +kernel
theorem d_K_raise_4 : decode b_K_raise 4 = .ok (.aload_n 0, 1) := by decide +kernel
theorem d_K_raise_5 : decode b_K_raise 5 = .ok (.getfield 15, 3) := by decide +kernel
theorem d_K_raise_8 : decode b_K_raise 8 = .ok (.iload_n 1, 1) := by decide +kernel
theorem d_K_raise_9 : decode b_K_raise 9 = .ok (.iaload, 1) := by decide +kernel
theorem d_K_raise_10 : decode b_K_raise 10 = .ok (.iconst 2, 1) := by decide +kernel
theorem d_K_raise_11 : decode b_K_raise 11 = .ok (.if_icmp .ne 4, 3) := by decide +kernel
theorem d_K_raise_14 : decode b_K_raise 14 = .ok (.return_, 1) := by decide +kernel
theorem d_K_raise_15 : decode b_K_raise 15 = .ok (.aload_n 0, 1) := by decide +kernel
theorem d_K_raise_16 : decode b_K_raise 16 = .ok (.getfield 15, 3) := by decide +kernel
theorem d_K_raise_19 : decode b_K_raise 19 = .ok (.iload_n 1, 1) := by decide +kernel
theorem d_K_raise_20 : decode b_K_raise 20 = .ok (.iaload, 1) := by decide +kernel
theorem d_K_raise_21 : decode b_K_raise 21 = .ok (.ifCond .ne 25, 3) := by decide +kernel
theorem d_K_raise_24 : decode b_K_raise 24 = .ok (.aload_n 0, 1) := by decide +kernel
theorem d_K_raise_25 : decode b_K_raise 25 = .ok (.getfield 15, 3) := by decide +kernel
theorem d_K_raise_28 : decode b_K_raise 28 = .ok (.iload_n 1, 1) := by decide +kernel
theorem d_K_raise_29 : decode b_K_raise 29 = .ok (.iload_n 2, 1) := by decide +kernel
theorem d_K_raise_30 : decode b_K_raise 30 = .ok (.iastore, 1) := by decide +kernel
theorem d_K_raise_31 : decode b_K_raise 31 = .ok (.aload_n 0, 1) := by decide +kernel
theorem d_K_raise_32 : decode b_K_raise 32 = .ok (.getfield 18, 3) := by decide +kernel
theorem d_K_raise_35 : decode b_K_raise 35 = .ok (.iload_n 1, 1) := by decide +kernel
theorem d_K_raise_36 : decode b_K_raise 36 = .ok (.iload_n 3, 1) := by decide +kernel
theorem d_K_raise_37 : decode b_K_raise 37 = .ok (.iastore, 1) := by decide +kernel
theorem d_K_raise_38 : decode b_K_raise 38 = .ok (.aload_n 0, 1) := by decide +kernel
theorem d_K_raise_39 : decode b_K_raise 39 = .ok (.iconst 1, 1) := by decide +kernel
theorem d_K_raise_40 : decode b_K_raise 40 = .ok (.putfield 47, 3) := by decide +kernel
theorem d_K_raise_43 : decode b_K_raise 43 = .ok (.goto 37, 3) := by decide +kernel
theorem d_K_raise_46 : decode b_K_raise 46 = .ok (.iload_n 2, 1) := by decide +kernel
theorem d_K_raise_47 : decode b_K_raise 47 = .ok (.iconst 2, 1) := by decide +kernel
theorem d_K_raise_48 : decode b_K_raise 48 = .ok (.if_icmp .eq 13, 3) := by decide +kernel
theorem d_K_raise_51 : decode b_K_raise 51 = .ok (.iload_n 3, 1) := by decide +kernel
theorem d_K_raise_52 : decode b_K_raise 52 = .ok (.aload_n 0, 1) := by decide +kernel
theorem d_K_raise_53 : decode b_K_raise 53 = .ok (.getfield 18, 3) := by decide +kernel
theorem d_K_raise_56 : decode b_K_raise 56 = .ok (.iload_n 1, 1) := by decide +kernel
theorem d_K_raise_57 : decode b_K_raise 57 = .ok (.iaload, 1) := by decide +kernel
theorem d_K_raise_58 : decode b_K_raise 58 = .ok (.if_icmp .eq 22, 3) := by decide +kernel
theorem d_K_raise_61 : decode b_K_raise 61 = .ok (.aload_n 0, 1) := by decide +kernel
theorem d_K_raise_62 : decode b_K_raise 62 = .ok (.getfield 15, 3) := by decide +kernel
theorem d_K_raise_65 : decode b_K_raise 65 = .ok (.iload_n 1, 1) := by decide +kernel
theorem d_K_raise_66 : decode b_K_raise 66 = .ok (.iconst 2, 1) := by decide +kernel
theorem d_K_raise_67 : decode b_K_raise 67 = .ok (.iastore, 1) := by decide +kernel
theorem d_K_raise_68 : decode b_K_raise 68 = .ok (.aload_n 0, 1) := by decide +kernel
theorem d_K_raise_69 : decode b_K_raise 69 = .ok (.getfield 18, 3) := by decide +kernel
theorem d_K_raise_72 : decode b_K_raise 72 = .ok (.iload_n 1, 1) := by decide +kernel
theorem d_K_raise_73 : decode b_K_raise 73 = .ok (.iconst 0, 1) := by decide +kernel
theorem d_K_raise_74 : decode b_K_raise 74 = .ok (.iastore, 1) := by decide +kernel
theorem d_K_raise_75 : decode b_K_raise 75 = .ok (.aload_n 0, 1) := by decide +kernel
theorem d_K_raise_76 : decode b_K_raise 76 = .ok (.iconst 1, 1) := by decide +kernel
theorem d_K_raise_77 : decode b_K_raise 77 = .ok (.putfield 47, 3) := by decide +kernel
theorem d_K_raise_80 : decode b_K_raise 80 = .ok (.return_, 1) := by decide +kernel
theorem d_K_passEnd_0 : decode b_K_passEnd 0 = .ok (.aload_n 0, 1) := by decide +kernel
theorem d_K_passEnd_1 : decode b_K_passEnd 1 = .ok (.getfield 9, 3) := by decide +kernel
theorem d_K_passEnd_4 : decode b_K_passEnd 4 = .ok (.iload_n 1, 1) := by decide +kernel
theorem d_K_passEnd_5 : decode b_K_passEnd 5 = .ok (.iaload, 1) := by decide +kernel
theorem d_K_passEnd_6 : decode b_K_passEnd 6 = .ok (.aload_n 0, 1) := by decide +kernel
theorem d_K_passEnd_7 : decode b_K_passEnd 7 = .ok (.iload_n 1, 1) := by decide +kernel
theorem d_K_passEnd_8 : decode b_K_passEnd 8 = .ok (.invokevirtual 123, 3) := by decide +kernel
theorem d_K_passEnd_11 : decode b_K_passEnd 11 = .ok (.ior, 1) := by decide +kernel
theorem d_K_passEnd_12 : decode b_K_passEnd 12 = .ok (.istore_n 2, 1) := by decide +kernel
theorem d_K_passEnd_13 : decode b_K_passEnd 13 = .ok (.iload_n 2, 1) := by decide +kernel
theorem d_K_passEnd_14 : decode b_K_passEnd 14 = .ok (.aload_n 0, 1) := by decide +kernel
theorem d_K_passEnd_15 : decode b_K_passEnd 15 = .ok (.getfield 9, 3) := by decide +kernel
theorem d_K_passEnd_18 : decode b_K_passEnd 18 = .ok (.iload_n 1, 1) := by decide +kernel
theorem d_K_passEnd_19 : decode b_K_passEnd 19 = .ok (.iaload, 1) := by decide +kernel
theorem d_K_passEnd_20 : decode b_K_passEnd 20 = .ok (.if_icmp .eq 25, 3) := by decide +kernel
theorem d_K_passEnd_23 : decode b_K_passEnd 23 = .ok (.aload_n 0, 1) := by decide +kernel
theorem d_K_passEnd_24 : decode b_K_passEnd 24 = .ok (.getfield 9, 3) := by decide +kernel
theorem d_K_passEnd_27 : decode b_K_passEnd 27 = .ok (.iload_n 1, 1) := by decide +kernel
theorem d_K_passEnd_28 : decode b_K_passEnd 28 = .ok (.iload_n 2, 1) := by decide +kernel
theorem d_K_passEnd_29 : decode b_K_passEnd 29 = .ok (.iastore, 1) := by decide +kernel
theorem d_K_passEnd_30 : decode b_K_passEnd 30 = .ok (.aload_n 0, 1) := by decide +kernel
theorem d_K_passEnd_31 : decode b_K_passEnd 31 = .ok (.dup, 1) := by decide +kernel
theorem d_K_passEnd_32 : decode b_K_passEnd 32 = .ok (.getfield 43, 3) := by decide +kernel
theorem d_K_passEnd_35 : decode b_K_passEnd 35 = .ok (.iload_n 2, 1) := by decide +kernel
theorem d_K_passEnd_36 : decode b_K_passEnd 36 = .ok (.ior, 1) := by decide +kernel
theorem d_K_passEnd_37 : decode b_K_passEnd 37 = .ok (.putfield 43, 3) := by decide +kernel
theorem d_K_passEnd_40 : decode b_K_passEnd 40 = .ok (.aload_n 0, 1) := by decide +kernel
theorem d_K_passEnd_41 : decode b_K_passEnd 41 = .ok (.iconst 1, 1) := by decide +kernel
theorem d_K_passEnd_42 : decode b_K_passEnd 42 = .ok (.putfield 47, 3) := by decide +kernel
theorem d_K_passEnd_45 : decode b_K_passEnd 45 = .ok (.return_, 1) := by decide +kernel
theorem d_K_waysTaken_0 : decode b_K_waysTaken 0 = .ok (.aload_n 0, 1) := by decide +kernel
theorem d_K_waysTaken_1 : decode b_K_waysTaken 1 = .ok (.getfield 29, 3) := by decide +kernel
theorem d_K_waysTaken_4 : decode b_K_waysTaken 4 = .ok (.getfield 126, 3) := by decide +kernel
theorem d_K_waysTaken_7 : decode b_K_waysTaken 7 = .ok (.iload_n 1, 1) := by decide +kernel
theorem d_K_waysTaken_8 : decode b_K_waysTaken 8 = .ok (.iaload, 1) := by decide +kernel
theorem d_K_waysTaken_9 : decode b_K_waysTaken 9 = .ok (.istore_n 2, 1) := by decide +kernel
theorem d_K_waysTaken_10 : decode b_K_waysTaken 10 = .ok (.iload_n 2, 1) := by decide +kernel
theorem d_K_waysTaken_11 : decode b_K_waysTaken 11 = .ok (.iconst (-1), 1) := by decide +kernel
theorem d_K_waysTaken_12 : decode b_K_waysTaken 12 = .ok (.if_icmp .eq 13, 3) := by decide +kernel
theorem d_K_waysTaken_15 : decode b_K_waysTaken 15 = .ok (.aload_n 0, 1) := by decide +kernel
theorem d_K_waysTaken_16 : decode b_K_waysTaken 16 = .ok (.getfield 15, 3) := by decide +kernel
theorem d_K_waysTaken_19 : decode b_K_waysTaken 19 = .ok (.iload_n 2, 1) := by decide +kernel
theorem d_K_waysTaken_20 : decode b_K_waysTaken 20 = .ok (.iaload, 1) := by decide +kernel
theorem d_K_waysTaken_21 : decode b_K_waysTaken 21 = .ok (.iconst 2, 1) := by decide +kernel
theorem d_K_waysTaken_22 : decode b_K_waysTaken 22 = .ok (.if_icmp .ne 12, 3) := by decide +kernel
theorem d_K_waysTaken_25 : decode b_K_waysTaken 25 = .ok (.aload_n 0, 1) := by decide +kernel
theorem d_K_waysTaken_26 : decode b_K_waysTaken 26 = .ok (.getfield 21, 3) := by decide +kernel
theorem d_K_waysTaken_29 : decode b_K_waysTaken 29 = .ok (.iload_n 1, 1) := by decide +kernel
theorem d_K_waysTaken_30 : decode b_K_waysTaken 30 = .ok (.invokevirtual 129, 3) := by decide +kernel
theorem d_K_waysTaken_33 : decode b_K_waysTaken 33 = .ok (.ireturn, 1) := by decide +kernel
theorem d_K_waysTaken_34 : decode b_K_waysTaken 34 = .ok (.aload_n 0, 1) := by decide +kernel
theorem d_K_waysTaken_35 : decode b_K_waysTaken 35 = .ok (.getfield 15, 3) := by decide +kernel
theorem d_K_waysTaken_38 : decode b_K_waysTaken 38 = .ok (.iload_n 2, 1) := by decide +kernel
theorem d_K_waysTaken_39 : decode b_K_waysTaken 39 = .ok (.iaload, 1) := by decide +kernel
theorem d_K_waysTaken_40 : decode b_K_waysTaken 40 = .ok (.ifCond .ne 5, 3) := by decide +kernel
theorem d_K_waysTaken_43 : decode b_K_waysTaken 43 = .ok (.iconst 0, 1) := by decide +kernel
theorem d_K_waysTaken_44 : decode b_K_waysTaken 44 = .ok (.ireturn, 1) := by decide +kernel
theorem d_K_waysTaken_45 : decode b_K_waysTaken 45 = .ok (.aload_n 0, 1) := by decide +kernel
theorem d_K_waysTaken_46 : decode b_K_waysTaken 46 = .ok (.getfield 18, 3) := by decide +kernel
theorem d_K_waysTaken_49 : decode b_K_waysTaken 49 = .ok (.iload_n 2, 1) := by decide +kernel
theorem d_K_waysTaken_50 : decode b_K_waysTaken 50 = .ok (.iaload, 1) := by decide +kernel
theorem d_K_waysTaken_51 : decode b_K_waysTaken 51 = .ok (.ifCond .eq 15, 3) := by decide +kernel
theorem d_K_waysTaken_54 : decode b_K_waysTaken 54 = .ok (.aload_n 0, 1) := by decide +kernel
theorem d_K_waysTaken_55 : decode b_K_waysTaken 55 = .ok (.getfield 21, 3) := by decide +kernel
theorem d_K_waysTaken_58 : decode b_K_waysTaken 58 = .ok (.getfield 132, 3) := by decide +kernel
theorem d_K_waysTaken_61 : decode b_K_waysTaken 61 = .ok (.iload_n 1, 1) := by decide +kernel
theorem d_K_waysTaken_62 : decode b_K_waysTaken 62 = .ok (.iaload, 1) := by decide +kernel
theorem d_K_waysTaken_63 : decode b_K_waysTaken 63 = .ok (.goto 12, 3) := by decide +kernel
theorem d_K_waysTaken_66 : decode b_K_waysTaken 66 = .ok (.aload_n 0, 1) := by decide +kernel
theorem d_K_waysTaken_67 : decode b_K_waysTaken 67 = .ok (.getfield 21, 3) := by decide +kernel
theorem d_K_waysTaken_70 : decode b_K_waysTaken 70 = .ok (.getfield 135, 3) := by decide +kernel
theorem d_K_waysTaken_73 : decode b_K_waysTaken 73 = .ok (.iload_n 1, 1) := by decide +kernel
theorem d_K_waysTaken_74 : decode b_K_waysTaken 74 = .ok (.iaload, 1) := by decide +kernel
theorem d_K_waysTaken_75 : decode b_K_waysTaken 75 = .ok (.invokestatic 39, 3) := by decide +kernel
theorem d_K_waysTaken_78 : decode b_K_waysTaken 78 = .ok (.ireturn, 1) := by decide +kernel
theorem d_A_addInput_0 : decode b_A_addInput 0 = .ok (.aload_n 0, 1) := by decide +kernel
theorem d_A_addInput_1 : decode b_A_addInput 1 = .ok (.getfield 43, 3) := by decide +kernel
theorem d_A_addInput_4 : decode b_A_addInput 4 = .ok (.bipush 16, 2) := by decide +kernel
theorem d_A_addInput_6 : decode b_A_addInput 6 = .ok (.if_icmp .lt 5, 3) := by decide +kernel
theorem d_A_addInput_9 : decode b_A_addInput 9 = .ok (.iconst 0, 1) := by decide +kernel
theorem d_A_addInput_10 : decode b_A_addInput 10 = .ok (.ireturn, 1) := by decide +kernel
theorem d_A_addInput_11 : decode b_A_addInput 11 = .ok (.aload_n 0, 1) := by decide +kernel
theorem d_A_addInput_12 : decode b_A_addInput 12 = .ok (.getfield 9, 3) := by decide +kernel
theorem d_A_addInput_15 : decode b_A_addInput 15 = .ok (.aload_n 0, 1) := by decide +kernel
theorem d_A_addInput_16 : decode b_A_addInput 16 = .ok (.getfield 43, 3) := by decide +kernel
theorem d_A_addInput_19 : decode b_A_addInput 19 = .ok (.iload_n 1, 1) := by decide +kernel
theorem d_A_addInput_20 : decode b_A_addInput 20 = .ok (.iastore, 1) := by decide +kernel
theorem d_A_addInput_21 : decode b_A_addInput 21 = .ok (.aload_n 0, 1) := by decide +kernel
theorem d_A_addInput_22 : decode b_A_addInput 22 = .ok (.dup, 1) := by decide +kernel
theorem d_A_addInput_23 : decode b_A_addInput 23 = .ok (.getfield 43, 3) := by decide +kernel
theorem d_A_addInput_26 : decode b_A_addInput 26 = .ok (.iconst 1, 1) := by decide +kernel
theorem d_A_addInput_27 : decode b_A_addInput 27 = .ok (.iadd, 1) := by decide +kernel
theorem d_A_addInput_28 : decode b_A_addInput 28 = .ok (.putfield 43, 3) := by decide +kernel
theorem d_A_addInput_31 : decode b_A_addInput 31 = .ok (.iconst 1, 1) := by decide +kernel
theorem d_A_addInput_32 : decode b_A_addInput 32 = .ok (.ireturn, 1) := by decide +kernel
theorem d_A_execute_0 : decode b_A_execute 0 = .ok (.aload_n 0, 1) := by decide +kernel
theorem d_A_execute_1 : decode b_A_execute 1 = .ok (.invokevirtual 47, 3) := by decide +kernel
theorem d_A_execute_4 : decode b_A_execute 4 = .ok (.iconst (-1), 1) := by decide +kernel
theorem d_A_execute_5 : decode b_A_execute 5 = .ok (.istore_n 3, 1) := by decide +kernel
theorem d_A_execute_6 : decode b_A_execute 6 = .ok (.iconst 0, 1) := by decide +kernel
theorem d_A_execute_7 : decode b_A_execute 7 = .ok (.istore 4, 2) := by decide +kernel
theorem d_A_execute_9 : decode b_A_execute 9 = .ok (.iconst 0, 1) := by decide +kernel
theorem d_A_execute_10 : decode b_A_execute 10 = .ok (.istore 5, 2) := by decide +kernel
theorem d_A_execute_12 : decode b_A_execute 12 = .ok (.iload 5, 2) := by decide +kernel
theorem d_A_execute_14 : decode b_A_execute 14 = .ok (.iload_n 2, 1) := by decide +kernel
theorem d_A_execute_15 : decode b_A_execute 15 = .ok (.if_icmp .ge 56, 3) := by decide +kernel
theorem d_A_execute_18 : decode b_A_execute 18 = .ok (.aload_n 0, 1) := by decide +kernel
theorem d_A_execute_19 : decode b_A_execute 19 = .ok (.dup, 1) := by decide +kernel
theorem d_A_execute_20 : decode b_A_execute 20 = .ok (.getfield 50, 3) := by decide +kernel
theorem d_A_execute_23 : decode b_A_execute 23 = .ok (.iconst 1, 1) := by decide +kernel
theorem d_A_execute_24 : decode b_A_execute 24 = .ok (.iadd, 1) := by decide +kernel
theorem d_A_execute_25 : decode b_A_execute 25 = .ok (.putfield 50, 3) := by decide +kernel
theorem d_A_execute_28 : decode b_A_execute 28 = .ok (.iload_n 1, 1) := by decide +kernel
theorem d_A_execute_29 : decode b_A_execute 29 = .ok (.ifCond .eq 12, 3) := by decide +kernel
theorem d_A_execute_32 : decode b_A_execute 32 = .ok (.aload_n 0, 1) := by decide +kernel
theorem d_A_execute_33 : decode b_A_execute 33 = .ok (.iload 4, 2) := by decide +kernel
theorem d_A_execute_35 : decode b_A_execute 35 = .ok (.invokevirtual 53, 3) := by decide +kernel
theorem d_A_execute_38 : decode b_A_execute 38 = .ok (.goto 10, 3) := by decide +kernel
theorem d_A_execute_41 : decode b_A_execute 41 = .ok (.aload_n 0, 1) := by decide +kernel
theorem d_A_execute_42 : decode b_A_execute 42 = .ok (.iload_n 3, 1) := by decide +kernel
theorem d_A_execute_43 : decode b_A_execute 43 = .ok (.iload 4, 2) := by decide +kernel
theorem d_A_execute_45 : decode b_A_execute 45 = .ok (.invokevirtual 57, 3) := by decide +kernel
theorem d_A_execute_48 : decode b_A_execute 48 = .ok (.istore 6, 2) := by decide +kernel
theorem d_A_execute_50 : decode b_A_execute 50 = .ok (.iload 6, 2) := by decide +kernel
theorem d_A_execute_52 : decode b_A_execute 52 = .ok (.iconst (-1), 1) := by decide +kernel
theorem d_A_execute_53 : decode b_A_execute 53 = .ok (.if_icmp .ne 5, 3) := by decide +kernel
theorem d_A_execute_56 : decode b_A_execute 56 = .ok (.iconst 1, 1) := by decide +kernel
theorem d_A_execute_57 : decode b_A_execute 57 = .ok (.ireturn, 1) := by decide +kernel
theorem d_A_execute_58 : decode b_A_execute 58 = .ok (.iload 4, 2) := by decide +kernel
theorem d_A_execute_60 : decode b_A_execute 60 = .ok (.istore_n 3, 1) := by decide +kernel
theorem d_A_execute_61 : decode b_A_execute 61 = .ok (.iload 6, 2) := by decide +kernel
theorem d_A_execute_63 : decode b_A_execute 63 = .ok (.istore 4, 2) := by decide +kernel
theorem d_A_execute_65 : decode b_A_execute 65 = .ok (.iinc 5 1, 3) := by decide +kernel
theorem d_A_execute_68 : decode b_A_execute 68 = .ok (.goto (-56), 3) := by decide +kernel
theorem d_A_execute_71 : decode b_A_execute 71 = .ok (.iconst 0, 1) := by decide +kernel
theorem d_A_execute_72 : decode b_A_execute 72 = .ok (.ireturn, 1) := by decide +kernel
theorem d_A_begin_0 : decode b_A_begin 0 = .ok (.aload_n 0, 1) := by decide +kernel
theorem d_A_begin_1 : decode b_A_begin 1 = .ok (.getfield 15, 3) := by decide +kernel
theorem d_A_begin_4 : decode b_A_begin 4 = .ok (.iconst 0, 1) := by decide +kernel
theorem d_A_begin_5 : decode b_A_begin 5 = .ok (.invokestatic 61, 3) := by decide +kernel
theorem d_A_begin_8 : decode b_A_begin 8 = .ok (.aload_n 0, 1) := by decide +kernel
theorem d_A_begin_9 : decode b_A_begin 9 = .ok (.getfield 18, 3) := by decide +kernel
theorem d_A_begin_12 : decode b_A_begin 12 = .ok (.iconst 0, 1) := by decide +kernel
theorem d_A_begin_13 : decode b_A_begin 13 = .ok (.invokestatic 61, 3) := by decide +kernel
theorem d_A_begin_16 : decode b_A_begin 16 = .ok (.aload_n 0, 1) := by decide +kernel
theorem d_A_begin_17 : decode b_A_begin 17 = .ok (.iconst 0, 1) := by decide +kernel
theorem d_A_begin_18 : decode b_A_begin 18 = .ok (.putfield 67, 3) := by decide +kernel
theorem d_A_begin_21 : decode b_A_begin 21 = .ok (.aload_n 0, 1) := by decide +kernel
theorem d_A_begin_22 : decode b_A_begin 22 = .ok (.iconst 0, 1) := by decide +kernel
theorem d_A_begin_23 : decode b_A_begin 23 = .ok (.putfield 50, 3) := by decide +kernel
theorem d_A_begin_26 : decode b_A_begin 26 = .ok (.aload_n 0, 1) := by decide +kernel
theorem d_A_begin_27 : decode b_A_begin 27 = .ok (.iconst 0, 1) := by decide +kernel
theorem d_A_begin_28 : decode b_A_begin 28 = .ok (.putfield 70, 3) := by decide +kernel
theorem d_A_begin_31 : decode b_A_begin 31 = .ok (.aload_n 0, 1) := by decide +kernel
theorem d_A_begin_32 : decode b_A_begin 32 = .ok (.iconst 0, 1) := by decide +kernel
theorem d_A_begin_33 : decode b_A_begin 33 = .ok (.putfield 73, 3) := by decide +kernel
theorem d_A_begin_36 : decode b_A_begin 36 = .ok (.return_, 1) := by decide +kernel
theorem d_A_passPlain_0 : decode b_A_passPlain 0 = .ok (.iconst 0, 1) := by decide +kernel
theorem d_A_passPlain_1 : decode b_A_passPlain 1 = .ok (.istore_n 2, 1) := by decide +kernel
theorem d_A_passPlain_2 : decode b_A_passPlain 2 = .ok (.iload_n 2, 1) := by decide +kernel
theorem d_A_passPlain_3 : decode b_A_passPlain 3 = .ok (.aload_n 0, 1) := by decide +kernel
theorem d_A_passPlain_4 : decode b_A_passPlain 4 = .ok (.getfield 27, 3) := by decide +kernel
theorem d_A_passPlain_7 : decode b_A_passPlain 7 = .ok (.getfield 76, 3) := by decide +kernel
theorem d_A_passPlain_10 : decode b_A_passPlain 10 = .ok (.iload_n 1, 1) := by decide +kernel
theorem d_A_passPlain_11 : decode b_A_passPlain 11 = .ok (.iaload, 1) := by decide +kernel
theorem d_A_passPlain_12 : decode b_A_passPlain 12 = .ok (.if_icmp .ge 124, 3) := by decide +kernel
theorem d_A_passPlain_15 : decode b_A_passPlain 15 = .ok (.aload_n 0, 1) := by decide +kernel
theorem d_A_passPlain_16 : decode b_A_passPlain 16 = .ok (.getfield 27, 3) := by decide +kernel
theorem d_A_passPlain_19 : decode b_A_passPlain 19 = .ok (.getfield 81, 3) := by decide +kernel
theorem d_A_passPlain_22 : decode b_A_passPlain 22 = .ok (.iload_n 1, 1) := by decide +kernel
theorem d_A_passPlain_23 : decode b_A_passPlain 23 = .ok (.aaload, 1) := by decide +kernel
theorem d_A_passPlain_24 : decode b_A_passPlain 24 = .ok (.iload_n 2, 1) := by decide +kernel
theorem d_A_passPlain_25 : decode b_A_passPlain 25 = .ok (.iaload, 1) := by decide +kernel
theorem d_A_passPlain_26 : decode b_A_passPlain 26 = .ok (.istore_n 3, 1) := by decide +kernel
theorem d_A_passPlain_27 : decode b_A_passPlain 27 = .ok (.aload_n 0, 1) := by decide +kernel
theorem d_A_passPlain_28 : decode b_A_passPlain 28 = .ok (.getfield 27, 3) := by decide +kernel
theorem d_A_passPlain_31 : decode b_A_passPlain 31 = .ok (.getfield 85, 3) := by decide +kernel
theorem d_A_passPlain_34 : decode b_A_passPlain 34 = .ok (.iload_n 1, 1) := by decide +kernel
theorem d_A_passPlain_35 : decode b_A_passPlain 35 = .ok (.aaload, 1) := by decide +kernel
theorem d_A_passPlain_36 : decode b_A_passPlain 36 = .ok (.iload_n 2, 1) := by decide +kernel
theorem d_A_passPlain_37 : decode b_A_passPlain 37 = .ok (.iaload, 1) := by decide +kernel
theorem d_A_passPlain_38 : decode b_A_passPlain 38 = .ok (.istore 4, 2) := by decide +kernel
theorem d_A_passPlain_40 : decode b_A_passPlain 40 = .ok (.aload_n 0, 1) := by decide +kernel
theorem d_A_passPlain_41 : decode b_A_passPlain 41 = .ok (.getfield 27, 3) := by decide +kernel
theorem d_A_passPlain_44 : decode b_A_passPlain 44 = .ok (.getfield 88, 3) := by decide +kernel
theorem d_A_passPlain_47 : decode b_A_passPlain 47 = .ok (.iload_n 1, 1) := by decide +kernel
theorem d_A_passPlain_48 : decode b_A_passPlain 48 = .ok (.aaload, 1) := by decide +kernel
theorem d_A_passPlain_49 : decode b_A_passPlain 49 = .ok (.iload_n 2, 1) := by decide +kernel
theorem d_A_passPlain_50 : decode b_A_passPlain 50 = .ok (.iaload, 1) := by decide +kernel
theorem d_A_passPlain_51 : decode b_A_passPlain 51 = .ok (.istore 5, 2) := by decide +kernel
theorem d_A_passPlain_53 : decode b_A_passPlain 53 = .ok (.iload_n 3, 1) := by decide +kernel
theorem d_A_passPlain_54 : decode b_A_passPlain 54 = .ok (.invokestatic 91, 3) := by decide +kernel
theorem d_A_passPlain_57 : decode b_A_passPlain 57 = .ok (.ifCond .eq 13, 3) := by decide +kernel
theorem d_A_passPlain_60 : decode b_A_passPlain 60 = .ok (.aload_n 0, 1) := by decide +kernel
theorem d_A_passPlain_61 : decode b_A_passPlain 61 = .ok (.getfield 15, 3) := by decide +kernel
theorem d_A_passPlain_64 : decode b_A_passPlain 64 = .ok (.iload 4, 2) := by decide +kernel
theorem d_A_passPlain_66 : decode b_A_passPlain 66 = .ok (.iaload, 1) := by decide +kernel
theorem d_A_passPlain_67 : decode b_A_passPlain 67 = .ok (.goto 5, 3) := by decide +kernel
theorem d_A_passPlain_70 : decode b_A_passPlain 70 = .ok (.iload 4, 2) := by decide +kernel
theorem d_A_passPlain_72 : decode b_A_passPlain 72 = .ok (.istore 6, 2) := by decide +kernel
theorem d_A_passPlain_74 : decode b_A_passPlain 74 = .ok (.iload_n 3, 1) := by decide +kernel
theorem d_A_passPlain_75 : decode b_A_passPlain 75 = .ok (.invokestatic 95, 3) := by decide +kernel
theorem d_A_passPlain_78 : decode b_A_passPlain 78 = .ok (.ifCond .eq 13, 3) := by decide +kernel
theorem d_A_passPlain_81 : decode b_A_passPlain 81 = .ok (.aload_n 0, 1) := by decide +kernel
theorem d_A_passPlain_82 : decode b_A_passPlain 82 = .ok (.getfield 15, 3) := by decide +kernel
theorem d_A_passPlain_85 : decode b_A_passPlain 85 = .ok (.iload 5, 2) := by decide +kernel
theorem d_A_passPlain_87 : decode b_A_passPlain 87 = .ok (.iaload, 1) := by decide +kernel
theorem d_A_passPlain_88 : decode b_A_passPlain 88 = .ok (.goto 4, 3) := by decide +kernel
theorem d_A_passPlain_91 : decode b_A_passPlain 91 = .ok (.iconst 0, 1) := by decide +kernel
theorem d_A_passPlain_92 : decode b_A_passPlain 92 = .ok (.istore 7, 2) := by decide +kernel
theorem d_A_passPlain_94 : decode b_A_passPlain 94 = .ok (.aload_n 0, 1) := by decide +kernel
theorem d_A_passPlain_95 : decode b_A_passPlain 95 = .ok (.iload_n 3, 1) := by decide +kernel
theorem d_A_passPlain_96 : decode b_A_passPlain 96 = .ok (.iload 6, 2) := by decide +kernel
theorem d_A_passPlain_98 : decode b_A_passPlain 98 = .ok (.iload 7, 2) := by decide +kernel
theorem d_A_passPlain_100 : decode b_A_passPlain 100 = .ok (.invokevirtual 98, 3) := by decide +kernel
theorem d_A_passPlain_103 : decode b_A_passPlain 103 = .ok (.istore 8, 2) := by decide +kernel
theorem d_A_passPlain_105 : decode b_A_passPlain 105 = .ok (.iload_n 3, 1) := by decide +kernel
theorem d_A_passPlain_106 : decode b_A_passPlain 106 = .ok (.invokestatic 102, 3) := by decide +kernel
theorem d_A_passPlain_109 : decode b_A_passPlain 109 = .ok (.ifCond .eq 21, 3) := by decide +kernel
theorem d_A_passPlain_112 : decode b_A_passPlain 112 = .ok (.aload_n 0, 1) := by decide +kernel
theorem d_A_passPlain_113 : decode b_A_passPlain 113 = .ok (.getfield 15, 3) := by decide +kernel
theorem d_A_passPlain_116 : decode b_A_passPlain 116 = .ok (.aload_n 0, 1) := by decide +kernel
theorem d_A_passPlain_117 : decode b_A_passPlain 117 = .ok (.getfield 27, 3) := by decide +kernel
theorem d_A_passPlain_120 : decode b_A_passPlain 120 = .ok (.getfield 105, 3) := by decide +kernel
theorem d_A_passPlain_123 : decode b_A_passPlain 123 = .ok (.iload_n 1, 1) := by decide +kernel
theorem d_A_passPlain_124 : decode b_A_passPlain 124 = .ok (.aaload, 1) := by decide +kernel
theorem d_A_passPlain_125 : decode b_A_passPlain 125 = .ok (.iload_n 2, 1) := by decide +kernel
theorem d_A_passPlain_126 : decode b_A_passPlain 126 = .ok (.iaload, 1) := by decide +kernel
theorem d_A_passPlain_127 : decode b_A_passPlain 127 = .ok (.iload 8, 2) := by decide +kernel
theorem d_A_passPlain_129 : decode b_A_passPlain 129 = .ok (.iastore, 1) := by decide +kernel
theorem d_A_passPlain_130 : decode b_A_passPlain 130 = .ok (.iinc 2 1, 3) := by decide +kernel
theorem d_A_passPlain_133 : decode b_A_passPlain 133 = .ok (.goto (-131), 3) := by decide +kernel
theorem d_A_passPlain_136 : decode b_A_passPlain 136 = .ok (.aload_n 0, 1) := by decide +kernel
theorem d_A_passPlain_137 : decode b_A_passPlain 137 = .ok (.iload_n 1, 1) := by decide +kernel
theorem d_A_passPlain_138 : decode b_A_passPlain 138 = .ok (.aload_n 0, 1) := by decide +kernel
theorem d_A_passPlain_139 : decode b_A_passPlain 139 = .ok (.getfield 15, 3) := by decide +kernel
theorem d_A_passPlain_142 : decode b_A_passPlain 142 = .ok (.aload_n 0, 1) := by decide +kernel
theorem d_A_passPlain_143 : decode b_A_passPlain 143 = .ok (.getfield 27, 3) := by decide +kernel
theorem d_A_passPlain_146 : decode b_A_passPlain 146 = .ok (.getfield 108, 3) := by decide +kernel
theorem d_A_passPlain_149 : decode b_A_passPlain 149 = .ok (.iload_n 1, 1) := by decide +kernel
theorem d_A_passPlain_150 : decode b_A_passPlain 150 = .ok (.iaload, 1) := by decide +kernel
theorem d_A_passPlain_151 : decode b_A_passPlain 151 = .ok (.iaload, 1) := by decide +kernel
theorem d_A_passPlain_152 : decode b_A_passPlain 152 = .ok (.invokevirtual 111, 3) := by decide +kernel
theorem d_A_passPlain_155 : decode b_A_passPlain 155 = .ok (.ireturn, 1) := by decide +kernel
theorem d_A_passBecome_0 : decode b_A_passBecome 0 = .ok (.iload_n 1, 1) := by decide +kernel
theorem d_A_passBecome_1 : decode b_A_passBecome 1 = .ok (.iconst (-1), 1) := by decide +kernel
theorem d_A_passBecome_2 : decode b_A_passBecome 2 = .ok (.if_icmp .eq 9, 3) := by decide +kernel
theorem d_A_passBecome_5 : decode b_A_passBecome 5 = .ok (.aload_n 0, 1) := by decide +kernel
theorem d_A_passBecome_6 : decode b_A_passBecome 6 = .ok (.iload_n 1, 1) := by decide +kernel
theorem d_A_passBecome_7 : decode b_A_passBecome 7 = .ok (.iload_n 2, 1) := by decide +kernel
theorem d_A_passBecome_8 : decode b_A_passBecome 8 = .ok (.invokevirtual 114, 3) := by decide +kernel
theorem d_A_passBecome_11 : decode b_A_passBecome 11 = .ok (.iconst 0, 1) := by decide +kernel
theorem d_A_passBecome_12 : decode b_A_passBecome 12 = .ok (.istore_n 3, 1) := by decide +kernel
theorem d_A_passBecome_13 : decode b_A_passBecome 13 = .ok (.iload_n 3, 1) := by decide +kernel
theorem d_A_passBecome_14 : decode b_A_passBecome 14 = .ok (.aload_n 0, 1) := by decide +kernel
theorem d_A_passBecome_15 : decode b_A_passBecome 15 = .ok (.getfield 27, 3) := by decide +kernel
theorem d_A_passBecome_18 : decode b_A_passBecome 18 = .ok (.getfield 76, 3) := by decide +kernel
theorem d_A_passBecome_21 : decode b_A_passBecome 21 = .ok (.iload_n 2, 1) := by decide +kernel
theorem d_A_passBecome_22 : decode b_A_passBecome 22 = .ok (.iaload, 1) := by decide +kernel
theorem d_A_passBecome_23 : decode b_A_passBecome 23 = .ok (.if_icmp .ge 107, 3) := by decide +kernel
theorem d_A_passBecome_26 : decode b_A_passBecome 26 = .ok (.aload_n 0, 1) := by decide +kernel
theorem d_A_passBecome_27 : decode b_A_passBecome 27 = .ok (.getfield 31, 3) := by decide +kernel
theorem d_A_passBecome_30 : decode b_A_passBecome 30 = .ok (.getfield 118, 3) := by decide +kernel
theorem d_A_passBecome_33 : decode b_A_passBecome 33 = .ok (.iload_n 2, 1) := by decide +kernel
theorem d_A_passBecome_34 : decode b_A_passBecome 34 = .ok (.aaload, 1) := by decide +kernel
theorem d_A_passBecome_35 : decode b_A_passBecome 35 = .ok (.iload_n 3, 1) := by decide +kernel
theorem d_A_passBecome_36 : decode b_A_passBecome 36 = .ok (.iaload, 1) := by decide +kernel
theorem d_A_passBecome_37 : decode b_A_passBecome 37 = .ok (.istore 4, 2) := by decide +kernel
theorem d_A_passBecome_39 : decode b_A_passBecome 39 = .ok (.iload 4, 2) := by decide +kernel
theorem d_A_passBecome_41 : decode b_A_passBecome 41 = .ok (.iconst (-1), 1) := by decide +kernel
theorem d_A_passBecome_42 : decode b_A_passBecome 42 = .ok (.if_icmp .eq 12, 3) := by decide +kernel
theorem d_A_passBecome_45 : decode b_A_passBecome 45 = .ok (.aload_n 0, 1) := by decide +kernel
theorem d_A_passBecome_46 : decode b_A_passBecome 46 = .ok (.iload 4, 2) := by decide +kernel
theorem d_A_passBecome_48 : decode b_A_passBecome 48 = .ok (.invokevirtual 123, 3) := by decide +kernel
theorem d_A_passBecome_51 : decode b_A_passBecome 51 = .ok (.ifCond .eq 73, 3) := by decide +kernel
theorem d_A_passBecome_54 : decode b_A_passBecome 54 = .ok (.aload_n 0, 1) := by decide +kernel
theorem d_A_passBecome_55 : decode b_A_passBecome 55 = .ok (.aload_n 0, 1) := by decide +kernel
theorem d_A_passBecome_56 : decode b_A_passBecome 56 = .ok (.getfield 31, 3) := by decide +kernel
theorem d_A_passBecome_59 : decode b_A_passBecome 59 = .ok (.getfield 126, 3) := by decide +kernel
theorem d_A_passBecome_62 : decode b_A_passBecome 62 = .ok (.iload_n 2, 1) := by decide +kernel
theorem d_A_passBecome_63 : decode b_A_passBecome 63 = .ok (.aaload, 1) := by decide +kernel
theorem d_A_passBecome_64 : decode b_A_passBecome 64 = .ok (.iload_n 3, 1) := by decide +kernel
theorem d_A_passBecome_65 : decode b_A_passBecome 65 = .ok (.iaload, 1) := by decide +kernel
theorem d_A_passBecome_66 : decode b_A_passBecome 66 = .ok (.invokevirtual 129, 3) := by decide +kernel
theorem d_A_passBecome_69 : decode b_A_passBecome 69 = .ok (.istore 5, 2) := by decide +kernel
theorem d_A_passBecome_71 : decode b_A_passBecome 71 = .ok (.aload_n 0, 1) := by decide +kernel
theorem d_A_passBecome_72 : decode b_A_passBecome 72 = .ok (.aload_n 0, 1) := by decide +kernel
theorem d_A_passBecome_73 : decode b_A_passBecome 73 = .ok (.getfield 31, 3) := by decide +kernel
theorem d_A_passBecome_76 : decode b_A_passBecome 76 = .ok (.getfield 132, 3) := by decide +kernel
theorem d_A_passBecome_79 : decode b_A_passBecome 79 = .ok (.iload_n 2, 1) := by decide +kernel
theorem d_A_passBecome_80 : decode b_A_passBecome 80 = .ok (.aaload, 1) := by decide +kernel
theorem d_A_passBecome_81 : decode b_A_passBecome 81 = .ok (.iload_n 3, 1) := by decide +kernel
theorem d_A_passBecome_82 : decode b_A_passBecome 82 = .ok (.iaload, 1) := by decide +kernel
theorem d_A_passBecome_83 : decode b_A_passBecome 83 = .ok (.invokevirtual 129, 3) := by decide +kernel
theorem d_A_passBecome_86 : decode b_A_passBecome 86 = .ok (.istore 6, 2) := by decide +kernel
theorem d_A_passBecome_88 : decode b_A_passBecome 88 = .ok (.aload_n 0, 1) := by decide +kernel
theorem d_A_passBecome_89 : decode b_A_passBecome 89 = .ok (.aload_n 0, 1) := by decide +kernel
theorem d_A_passBecome_90 : decode b_A_passBecome 90 = .ok (.getfield 27, 3) := by decide +kernel
theorem d_A_passBecome_93 : decode b_A_passBecome 93 = .ok (.getfield 81, 3) := by decide +kernel
theorem d_A_passBecome_96 : decode b_A_passBecome 96 = .ok (.iload_n 2, 1) := by decide +kernel
theorem d_A_passBecome_97 : decode b_A_passBecome 97 = .ok (.aaload, 1) := by decide +kernel
theorem d_A_passBecome_98 : decode b_A_passBecome 98 = .ok (.iload_n 3, 1) := by decide +kernel
theorem d_A_passBecome_99 : decode b_A_passBecome 99 = .ok (.iaload, 1) := by decide +kernel
theorem d_A_passBecome_100 : decode b_A_passBecome 100 = .ok (.iload 5, 2) := by decide +kernel
theorem d_A_passBecome_102 : decode b_A_passBecome 102 = .ok (.iload 6, 2) := by decide +kernel
theorem d_A_passBecome_104 : decode b_A_passBecome 104 = .ok (.invokevirtual 98, 3) := by decide +kernel
theorem d_A_passBecome_107 : decode b_A_passBecome 107 = .ok (.istore 7, 2) := by decide +kernel
theorem d_A_passBecome_109 : decode b_A_passBecome 109 = .ok (.iload 4, 2) := by decide +kernel
theorem d_A_passBecome_111 : decode b_A_passBecome 111 = .ok (.iconst (-1), 1) := by decide +kernel
theorem d_A_passBecome_112 : decode b_A_passBecome 112 = .ok (.if_icmp .eq 12, 3) := by decide +kernel
theorem d_A_passBecome_115 : decode b_A_passBecome 115 = .ok (.aload_n 0, 1) := by decide +kernel
theorem d_A_passBecome_116 : decode b_A_passBecome 116 = .ok (.getfield 18, 3) := by decide +kernel
theorem d_A_passBecome_119 : decode b_A_passBecome 119 = .ok (.iload 4, 2) := by decide +kernel
theorem d_A_passBecome_121 : decode b_A_passBecome 121 = .ok (.iload 7, 2) := by decide +kernel
theorem d_A_passBecome_123 : decode b_A_passBecome 123 = .ok (.iastore, 1) := by decide +kernel
theorem d_A_passBecome_124 : decode b_A_passBecome 124 = .ok (.iinc 3 1, 3) := by decide +kernel
theorem d_A_passBecome_127 : decode b_A_passBecome 127 = .ok (.goto (-114), 3) := by decide +kernel
theorem d_A_passBecome_130 : decode b_A_passBecome 130 = .ok (.aload_n 0, 1) := by decide +kernel
theorem d_A_passBecome_131 : decode b_A_passBecome 131 = .ok (.iload_n 2, 1) := by decide +kernel
theorem d_A_passBecome_132 : decode b_A_passBecome 132 = .ok (.aload_n 0, 1) := by decide +kernel
theorem d_A_passBecome_133 : decode b_A_passBecome 133 = .ok (.aload_n 0, 1) := by decide +kernel
theorem d_A_passBecome_134 : decode b_A_passBecome 134 = .ok (.getfield 31, 3) := by decide +kernel
theorem d_A_passBecome_137 : decode b_A_passBecome 137 = .ok (.getfield 135, 3) := by decide +kernel
theorem d_A_passBecome_140 : decode b_A_passBecome 140 = .ok (.iload_n 2, 1) := by decide +kernel
theorem d_A_passBecome_141 : decode b_A_passBecome 141 = .ok (.iaload, 1) := by decide +kernel
theorem d_A_passBecome_142 : decode b_A_passBecome 142 = .ok (.invokevirtual 129, 3) := by decide +kernel
theorem d_A_passBecome_145 : decode b_A_passBecome 145 = .ok (.invokevirtual 111, 3) := by decide +kernel
theorem d_A_passBecome_148 : decode b_A_passBecome 148 = .ok (.ireturn, 1) := by decide +kernel
theorem d_A_choose_0 : decode b_A_choose 0 = .ok (.iconst 0, 1) := by decide +kernel
theorem d_A_choose_1 : decode b_A_choose 1 = .ok (.istore_n 3, 1) := by decide +kernel
theorem d_A_choose_2 : decode b_A_choose 2 = .ok (.iload_n 3, 1) := by decide +kernel
theorem d_A_choose_3 : decode b_A_choose 3 = .ok (.bipush 6, 2) := by decide +kernel
theorem d_A_choose_5 : decode b_A_choose 5 = .ok (.if_icmp .ge 30, 3) := by decide +kernel
theorem d_A_choose_8 : decode b_A_choose 8 = .ok (.aload_n 0, 1) := by decide +kernel
theorem d_A_choose_9 : decode b_A_choose 9 = .ok (.getfield 21, 3) := by decide +kernel
theorem d_A_choose_12 : decode b_A_choose 12 = .ok (.iload_n 3, 1) := by decide +kernel
theorem d_A_choose_13 : decode b_A_choose 13 = .ok (.aload_n 0, 1) := by decide +kernel
theorem d_A_choose_14 : decode b_A_choose 14 = .ok (.aload_n 0, 1) := by decide +kernel
theorem d_A_choose_15 : decode b_A_choose 15 = .ok (.getfield 31, 3) := by decide +kernel
theorem d_A_choose_18 : decode b_A_choose 18 = .ok (.getfield 138, 3) := by decide +kernel
theorem d_A_choose_21 : decode b_A_choose 21 = .ok (.iload_n 1, 1) := by decide +kernel
theorem d_A_choose_22 : decode b_A_choose 22 = .ok (.aaload, 1) := by decide +kernel
theorem d_A_choose_23 : decode b_A_choose 23 = .ok (.iload_n 3, 1) := by decide +kernel
theorem d_A_choose_24 : decode b_A_choose 24 = .ok (.iaload, 1) := by decide +kernel
theorem d_A_choose_25 : decode b_A_choose 25 = .ok (.invokevirtual 129, 3) := by decide +kernel
theorem d_A_choose_28 : decode b_A_choose 28 = .ok (.iastore, 1) := by decide +kernel
theorem d_A_choose_29 : decode b_A_choose 29 = .ok (.iinc 3 1, 3) := by decide +kernel
theorem d_A_choose_32 : decode b_A_choose 32 = .ok (.goto (-30), 3) := by decide +kernel
theorem d_A_choose_35 : decode b_A_choose 35 = .ok (.iconst 0, 1) := by decide +kernel
theorem d_A_choose_36 : decode b_A_choose 36 = .ok (.istore_n 3, 1) := by decide +kernel
theorem d_A_choose_37 : decode b_A_choose 37 = .ok (.iload_n 3, 1) := by decide +kernel
theorem d_A_choose_38 : decode b_A_choose 38 = .ok (.bipush 6, 2) := by decide +kernel
theorem d_A_choose_40 : decode b_A_choose 40 = .ok (.if_icmp .ge 47, 3) := by decide +kernel
theorem d_A_choose_43 : decode b_A_choose 43 = .ok (.aload_n 0, 1) := by decide +kernel
theorem d_A_choose_44 : decode b_A_choose 44 = .ok (.getfield 31, 3) := by decide +kernel
theorem d_A_choose_47 : decode b_A_choose 47 = .ok (.getfield 141, 3) := by decide +kernel
theorem d_A_choose_50 : decode b_A_choose 50 = .ok (.iload_n 2, 1) := by decide +kernel
theorem d_A_choose_51 : decode b_A_choose 51 = .ok (.iaload, 1) := by decide +kernel
theorem d_A_choose_52 : decode b_A_choose 52 = .ok (.iload_n 3, 1) := by decide +kernel
theorem d_A_choose_53 : decode b_A_choose 53 = .ok (.invokestatic 144, 3) := by decide +kernel
theorem d_A_choose_56 : decode b_A_choose 56 = .ok (.ifCond .eq 25, 3) := by decide +kernel
theorem d_A_choose_59 : decode b_A_choose 59 = .ok (.aload_n 0, 1) := by decide +kernel
theorem d_A_choose_60 : decode b_A_choose 60 = .ok (.getfield 18, 3) := by decide +kernel
theorem d_A_choose_63 : decode b_A_choose 63 = .ok (.aload_n 0, 1) := by decide +kernel
theorem d_A_choose_64 : decode b_A_choose 64 = .ok (.getfield 31, 3) := by decide +kernel
theorem d_A_choose_67 : decode b_A_choose 67 = .ok (.getfield 148, 3) := by decide +kernel
theorem d_A_choose_70 : decode b_A_choose 70 = .ok (.iload_n 2, 1) := by decide +kernel
theorem d_A_choose_71 : decode b_A_choose 71 = .ok (.aaload, 1) := by decide +kernel
theorem d_A_choose_72 : decode b_A_choose 72 = .ok (.iload_n 3, 1) := by decide +kernel
theorem d_A_choose_73 : decode b_A_choose 73 = .ok (.iaload, 1) := by decide +kernel
theorem d_A_choose_74 : decode b_A_choose 74 = .ok (.aload_n 0, 1) := by decide +kernel
theorem d_A_choose_75 : decode b_A_choose 75 = .ok (.getfield 21, 3) := by decide +kernel
theorem d_A_choose_78 : decode b_A_choose 78 = .ok (.iload_n 3, 1) := by decide +kernel
theorem d_A_choose_79 : decode b_A_choose 79 = .ok (.iaload, 1) := by decide +kernel
theorem d_A_choose_80 : decode b_A_choose 80 = .ok (.iastore, 1) := by decide +kernel
theorem d_A_choose_81 : decode b_A_choose 81 = .ok (.iinc 3 1, 3) := by decide +kernel
theorem d_A_choose_84 : decode b_A_choose 84 = .ok (.goto (-47), 3) := by decide +kernel
theorem d_A_choose_87 : decode b_A_choose 87 = .ok (.return_, 1) := by decide +kernel
theorem d_A_isKept_0 : decode b_A_isKept 0 = .ok (.aload_n 0, 1) := by decide +kernel
theorem d_A_isKept_1 : decode b_A_isKept 1 = .ok (.getfield 39, 3) := by decide +kernel
theorem d_A_isKept_4 : decode b_A_isKept 4 = .ok (.getfield 151, 3) := by decide +kernel
theorem d_A_isKept_7 : decode b_A_isKept 7 = .ok (.iload_n 1, 1) := by decide +kernel
theorem d_A_isKept_8 : decode b_A_isKept 8 = .ok (.baload, 1) := by decide +kernel
theorem d_A_isKept_9 : decode b_A_isKept 9 = .ok (.ifCond .eq 20, 3) := by decide +kernel
theorem d_A_isKept_12 : decode b_A_isKept 12 = .ok (.aload_n 0, 1) := by decide +kernel
theorem d_A_isKept_13 : decode b_A_isKept 13 = .ok (.getfield 35, 3) := by decide +kernel
theorem d_A_isKept_16 : decode b_A_isKept 16 = .ok (.getfield 157, 3) := by decide +kernel
theorem d_A_isKept_19 : decode b_A_isKept 19 = .ok (.iload_n 1, 1) := by decide +kernel
theorem d_A_isKept_20 : decode b_A_isKept 20 = .ok (.iaload, 1) := by decide +kernel
theorem d_A_isKept_21 : decode b_A_isKept 21 = .ok (.iconst 1, 1) := by decide +kernel
theorem d_A_isKept_22 : decode b_A_isKept 22 = .ok (.if_icmp .eq 7, 3) := by decide +kernel
theorem d_A_isKept_25 : decode b_A_isKept 25 = .ok (.iconst 1, 1) := by decide +kernel
theorem d_A_isKept_26 : decode b_A_isKept 26 = .ok (.goto 4, 3) := by decide +kernel
theorem d_A_isKept_29 : decode b_A_isKept 29 = .ok (.iconst 0, 1) := by decide +kernel
theorem d_A_isKept_30 : decode b_A_isKept 30 = .ok (.ireturn, 1) := by decide +kernel
theorem d_A_valueOf_0 : decode b_A_valueOf 0 = .ok (.iload_n 1, 1) := by decide +kernel
theorem d_A_valueOf_1 : decode b_A_valueOf 1 = .ok (.iconst (-1), 1) := by decide +kernel
theorem d_A_valueOf_2 : decode b_A_valueOf 2 = .ok (.if_icmp .ne 5, 3) := by decide +kernel
theorem d_A_valueOf_5 : decode b_A_valueOf 5 = .ok (.iconst 0, 1) := by decide +kernel
theorem d_A_valueOf_6 : decode b_A_valueOf 6 = .ok (.ireturn, 1) := by decide +kernel
theorem d_A_valueOf_7 : decode b_A_valueOf 7 = .ok (.aload_n 0, 1) := by decide +kernel
theorem d_A_valueOf_8 : decode b_A_valueOf 8 = .ok (.getfield 35, 3) := by decide +kernel
theorem d_A_valueOf_11 : decode b_A_valueOf 11 = .ok (.getfield 157, 3) := by decide +kernel
theorem d_A_valueOf_14 : decode b_A_valueOf 14 = .ok (.iload_n 1, 1) := by decide +kernel
theorem d_A_valueOf_15 : decode b_A_valueOf 15 = .ok (.iaload, 1) := by decide +kernel
theorem d_A_valueOf_16 : decode b_A_valueOf 16 = .ok (.iconst 1, 1) := by decide +kernel
theorem d_A_valueOf_17 : decode b_A_valueOf 17 = .ok (.if_icmp .ne 15, 3) := by decide +kernel
theorem d_A_valueOf_20 : decode b_A_valueOf 20 = .ok (.aload_n 0, 1) := by decide +kernel
theorem d_A_valueOf_21 : decode b_A_valueOf 21 = .ok (.getfield 35, 3) := by decide +kernel
theorem d_A_valueOf_24 : decode b_A_valueOf 24 = .ok (.getfield 162, 3) := by decide +kernel
theorem d_A_valueOf_27 : decode b_A_valueOf 27 = .ok (.iload_n 1, 1) := by decide +kernel
theorem d_A_valueOf_28 : decode b_A_valueOf 28 = .ok (.iaload, 1) := by decide +kernel
theorem d_A_valueOf_29 : decode b_A_valueOf 29 = .ok (.goto 9, 3) := by decide +kernel
theorem d_A_valueOf_32 : decode b_A_valueOf 32 = .ok (.aload_n 0, 1) := by decide +kernel
theorem d_A_valueOf_33 : decode b_A_valueOf 33 = .ok (.getfield 18, 3) := by decide +kernel
theorem d_A_valueOf_36 : decode b_A_valueOf 36 = .ok (.iload_n 1, 1) := by decide +kernel
theorem d_A_valueOf_37 : decode b_A_valueOf 37 = .ok (.iaload, 1) := by decide +kernel
theorem d_A_valueOf_38 : decode b_A_valueOf 38 = .ok (.ireturn, 1) := by decide +kernel
theorem d_A_perform_0 : decode b_A_perform 0 = .ok (.aload_n 0, 1) := by decide +kernel
theorem d_A_perform_1 : decode b_A_perform 1 = .ok (.dup, 1) := by decide +kernel
theorem d_A_perform_2 : decode b_A_perform 2 = .ok (.getfield 70, 3) := by decide +kernel
theorem d_A_perform_5 : decode b_A_perform 5 = .ok (.iconst 1, 1) := by decide +kernel
theorem d_A_perform_6 : decode b_A_perform 6 = .ok (.iadd, 1) := by decide +kernel
theorem d_A_perform_7 : decode b_A_perform 7 = .ok (.putfield 70, 3) := by decide +kernel
theorem d_A_perform_10 : decode b_A_perform 10 = .ok (.iload_n 1, 1) := by decide +kernel
theorem d_A_perform_11 : decode b_A_perform 11 = .ok (.bipush 7, 2) := by decide +kernel
theorem d_A_perform_13 : decode b_A_perform 13 = .ok (.if_icmp .ne 8, 3) := by decide +kernel
theorem d_A_perform_16 : decode b_A_perform 16 = .ok (.aload_n 0, 1) := by decide +kernel
theorem d_A_perform_17 : decode b_A_perform 17 = .ok (.iload_n 2, 1) := by decide +kernel
theorem d_A_perform_18 : decode b_A_perform 18 = .ok (.invokevirtual 165, 3) := by decide +kernel
theorem d_A_perform_21 : decode b_A_perform 21 = .ok (.iload_n 1, 1) := by decide +kernel
theorem d_A_perform_22 : decode b_A_perform 22 = .ok (.bipush 6, 2) := by decide +kernel
theorem d_A_perform_24 : decode b_A_perform 24 = .ok (.if_icmp .ne 10, 3) := by decide +kernel
theorem d_A_perform_27 : decode b_A_perform 27 = .ok (.aload_n 0, 1) := by decide +kernel
theorem d_A_perform_28 : decode b_A_perform 28 = .ok (.invokevirtual 169, 3) := by decide +kernel
theorem d_A_perform_31 : decode b_A_perform 31 = .ok (.goto 9, 3) := by decide +kernel
theorem d_A_perform_34 : decode b_A_perform 34 = .ok (.iload_n 1, 1) := by decide +kernel
theorem d_A_perform_35 : decode b_A_perform 35 = .ok (.iload_n 2, 1) := by decide +kernel
theorem d_A_perform_36 : decode b_A_perform 36 = .ok (.iload_n 3, 1) := by decide +kernel
theorem d_A_perform_37 : decode b_A_perform 37 = .ok (.invokestatic 173, 3) := by decide +kernel
theorem d_A_perform_40 : decode b_A_perform 40 = .ok (.ireturn, 1) := by decide +kernel
theorem d_A_keep_0 : decode b_A_keep 0 = .ok (.aload_n 0, 1) := by decide +kernel
theorem d_A_keep_1 : decode b_A_keep 1 = .ok (.getfield 67, 3) := by decide +kernel
theorem d_A_keep_4 : decode b_A_keep 4 = .ok (.bipush 40, 2) := by decide +kernel
theorem d_A_keep_6 : decode b_A_keep 6 = .ok (.if_icmp .ge 13, 3) := by decide +kernel
theorem d_A_keep_9 : decode b_A_keep 9 = .ok (.aload_n 0, 1) := by decide +kernel
theorem d_A_keep_10 : decode b_A_keep 10 = .ok (.getfield 24, 3) := by decide +kernel
theorem d_A_keep_13 : decode b_A_keep 13 = .ok (.aload_n 0, 1) := by decide +kernel
theorem d_A_keep_14 : decode b_A_keep 14 = .ok (.getfield 67, 3) := by decide +kernel
theorem d_A_keep_17 : decode b_A_keep 17 = .ok (.iload_n 1, 1) := by decide +kernel
theorem d_A_keep_18 : decode b_A_keep 18 = .ok (.iastore, 1) := by decide +kernel
theorem d_A_keep_19 : decode b_A_keep 19 = .ok (.aload_n 0, 1) := by decide +kernel
theorem d_A_keep_20 : decode b_A_keep 20 = .ok (.dup, 1) := by decide +kernel
theorem d_A_keep_21 : decode b_A_keep 21 = .ok (.getfield 67, 3) := by decide +kernel
theorem d_A_keep_24 : decode b_A_keep 24 = .ok (.iconst 1, 1) := by decide +kernel
theorem d_A_keep_25 : decode b_A_keep 25 = .ok (.iadd, 1) := by decide +kernel
theorem d_A_keep_26 : decode b_A_keep 26 = .ok (.putfield 67, 3) := by decide +kernel
theorem d_A_keep_29 : decode b_A_keep 29 = .ok (.return_, 1) := by decide +kernel
theorem d_A_nextInput_0 : decode b_A_nextInput 0 = .ok (.aload_n 0, 1) := by decide +kernel
theorem d_A_nextInput_1 : decode b_A_nextInput 1 = .ok (.getfield 73, 3) := by decide +kernel
theorem d_A_nextInput_4 : decode b_A_nextInput 4 = .ok (.aload_n 0, 1) := by decide +kernel
theorem d_A_nextInput_5 : decode b_A_nextInput 5 = .ok (.getfield 43, 3) := by decide +kernel
theorem d_A_nextInput_8 : decode b_A_nextInput 8 = .ok (.if_icmp .lt 5, 3) := by decide +kernel
theorem d_A_nextInput_11 : decode b_A_nextInput 11 = .ok (.iconst 0, 1) := by decide +kernel
theorem d_A_nextInput_12 : decode b_A_nextInput 12 = .ok (.ireturn, 1) := by decide +kernel
theorem d_A_nextInput_13 : decode b_A_nextInput 13 = .ok (.aload_n 0, 1) := by decide +kernel
theorem d_A_nextInput_14 : decode b_A_nextInput 14 = .ok (.getfield 9, 3) := by decide +kernel
theorem d_A_nextInput_17 : decode b_A_nextInput 17 = .ok (.aload_n 0, 1) := by decide +kernel
theorem d_A_nextInput_18 : decode b_A_nextInput 18 = .ok (.getfield 73, 3) := by decide +kernel
theorem d_A_nextInput_21 : decode b_A_nextInput 21 = .ok (.iaload, 1) := by decide +kernel
theorem d_A_nextInput_22 : decode b_A_nextInput 22 = .ok (.istore_n 1, 1) := by decide +kernel
theorem d_A_nextInput_23 : decode b_A_nextInput 23 = .ok (.aload_n 0, 1) := by decide +kernel
theorem d_A_nextInput_24 : decode b_A_nextInput 24 = .ok (.dup, 1) := by decide +kernel
theorem d_A_nextInput_25 : decode b_A_nextInput 25 = .ok (.getfield 73, 3) := by decide +kernel
theorem d_A_nextInput_28 : decode b_A_nextInput 28 = .ok (.iconst 1, 1) := by decide +kernel
theorem d_A_nextInput_29 : decode b_A_nextInput 29 = .ok (.iadd, 1) := by decide +kernel
theorem d_A_nextInput_30 : decode b_A_nextInput 30 = .ok (.putfield 73, 3) := by decide +kernel
theorem d_A_nextInput_33 : decode b_A_nextInput 33 = .ok (.iload_n 1, 1) := by decide +kernel
theorem d_A_nextInput_34 : decode b_A_nextInput 34 = .ok (.ireturn, 1) := by decide +kernel
theorem d_A_nextOf_0 : decode b_A_nextOf 0 = .ok (.aload_n 0, 1) := by decide +kernel
theorem d_A_nextOf_1 : decode b_A_nextOf 1 = .ok (.getfield 27, 3) := by decide +kernel
theorem d_A_nextOf_4 : decode b_A_nextOf 4 = .ok (.getfield 176, 3) := by decide +kernel
theorem d_A_nextOf_7 : decode b_A_nextOf 7 = .ok (.iload_n 1, 1) := by decide +kernel
theorem d_A_nextOf_8 : decode b_A_nextOf 8 = .ok (.iaload, 1) := by decide +kernel
theorem d_A_nextOf_9 : decode b_A_nextOf 9 = .ok (.ifCond .ne 5, 3) := by decide +kernel
theorem d_A_nextOf_12 : decode b_A_nextOf 12 = .ok (.iconst (-1), 1) := by decide +kernel
theorem d_A_nextOf_13 : decode b_A_nextOf 13 = .ok (.ireturn, 1) := by decide +kernel
theorem d_A_nextOf_14 : decode b_A_nextOf 14 = .ok (.iload_n 2, 1) := by decide +kernel
theorem d_A_nextOf_15 : decode b_A_nextOf 15 = .ok (.ifCond .eq 15, 3) := by decide +kernel
theorem d_A_nextOf_18 : decode b_A_nextOf 18 = .ok (.aload_n 0, 1) := by decide +kernel
theorem d_A_nextOf_19 : decode b_A_nextOf 19 = .ok (.getfield 27, 3) := by decide +kernel
theorem d_A_nextOf_22 : decode b_A_nextOf 22 = .ok (.getfield 179, 3) := by decide +kernel
theorem d_A_nextOf_25 : decode b_A_nextOf 25 = .ok (.iload_n 1, 1) := by decide +kernel
theorem d_A_nextOf_26 : decode b_A_nextOf 26 = .ok (.iaload, 1) := by decide +kernel
theorem d_A_nextOf_27 : decode b_A_nextOf 27 = .ok (.goto 12, 3) := by decide +kernel
theorem d_A_nextOf_30 : decode b_A_nextOf 30 = .ok (.aload_n 0, 1) := by decide +kernel
theorem d_A_nextOf_31 : decode b_A_nextOf 31 = .ok (.getfield 27, 3) := by decide +kernel
theorem d_A_nextOf_34 : decode b_A_nextOf 34 = .ok (.getfield 182, 3) := by decide +kernel
theorem d_A_nextOf_37 : decode b_A_nextOf 37 = .ok (.iload_n 1, 1) := by decide +kernel
theorem d_A_nextOf_38 : decode b_A_nextOf 38 = .ok (.iaload, 1) := by decide +kernel
theorem d_A_nextOf_39 : decode b_A_nextOf 39 = .ok (.ireturn, 1) := by decide +kernel
theorem d_G_nameAll_0 : decode b_G_nameAll 0 = .ok (.aload_n 0, 1) := by decide +kernel
theorem d_G_nameAll_1 : decode b_G_nameAll 1 = .ok (.invokevirtual 55, 3) := by decide +kernel
theorem d_G_nameAll_4 : decode b_G_nameAll 4 = .ok (.aload_n 0, 1) := by decide +kernel
theorem d_G_nameAll_5 : decode b_G_nameAll 5 = .ok (.invokevirtual 58, 3) := by decide +kernel
theorem d_G_nameAll_8 : decode b_G_nameAll 8 = .ok (.aload_n 0, 1) := by decide +kernel
theorem d_G_nameAll_9 : decode b_G_nameAll 9 = .ok (.getfield 35, 3) := by decide +kernel
theorem d_G_nameAll_12 : decode b_G_nameAll 12 = .ok (.iconst (-1), 1) := by decide +kernel
theorem d_G_nameAll_13 : decode b_G_nameAll 13 = .ok (.invokestatic 61, 3) := by decide +kernel
theorem d_G_nameAll_16 : decode b_G_nameAll 16 = .ok (.aload_n 0, 1) := by decide +kernel
theorem d_G_nameAll_17 : decode b_G_nameAll 17 = .ok (.iconst 0, 1) := by decide +kernel
theorem d_G_nameAll_18 : decode b_G_nameAll 18 = .ok (.putfield 67, 3) := by decide +kernel
theorem d_G_nameAll_21 : decode b_G_nameAll 21 = .ok (.iconst 0, 1) := by decide +kernel
theorem d_G_nameAll_22 : decode b_G_nameAll 22 = .ok (.istore_n 1, 1) := by decide +kernel
theorem d_G_nameAll_23 : decode b_G_nameAll 23 = .ok (.iload_n 1, 1) := by decide +kernel
theorem d_G_nameAll_24 : decode b_G_nameAll 24 = .ok (.bipush 6, 2) := by decide +kernel
theorem d_G_nameAll_26 : decode b_G_nameAll 26 = .ok (.if_icmp .ge 17, 3) := by decide +kernel
theorem d_G_nameAll_29 : decode b_G_nameAll 29 = .ok (.aload_n 0, 1) := by decide +kernel
theorem d_G_nameAll_30 : decode b_G_nameAll 30 = .ok (.iconst (-1), 1) := by decide +kernel
theorem d_G_nameAll_31 : decode b_G_nameAll 31 = .ok (.iconst (-1), 1) := by decide +kernel
theorem d_G_nameAll_32 : decode b_G_nameAll 32 = .ok (.iload_n 1, 1) := by decide +kernel
theorem d_G_nameAll_33 : decode b_G_nameAll 33 = .ok (.invokevirtual 71, 3) := by decide +kernel
theorem d_G_nameAll_36 : decode b_G_nameAll 36 = .ok (.pop, 1) := by decide +kernel
theorem d_G_nameAll_37 : decode b_G_nameAll 37 = .ok (.iinc 1 1, 3) := by decide +kernel
theorem d_G_nameAll_40 : decode b_G_nameAll 40 = .ok (.goto (-17), 3) := by decide +kernel
theorem d_G_nameAll_43 : decode b_G_nameAll 43 = .ok (.iconst 0, 1) := by decide +kernel
theorem d_G_nameAll_44 : decode b_G_nameAll 44 = .ok (.istore_n 1, 1) := by decide +kernel
theorem d_G_nameAll_45 : decode b_G_nameAll 45 = .ok (.iload_n 1, 1) := by decide +kernel
theorem d_G_nameAll_46 : decode b_G_nameAll 46 = .ok (.aload_n 0, 1) := by decide +kernel
theorem d_G_nameAll_47 : decode b_G_nameAll 47 = .ok (.getfield 51, 3) := by decide +kernel
theorem d_G_nameAll_50 : decode b_G_nameAll 50 = .ok (.getfield 75, 3) := by decide +kernel
theorem d_G_nameAll_53 : decode b_G_nameAll 53 = .ok (.if_icmp .ge 22, 3) := by decide +kernel
theorem d_G_nameAll_56 : decode b_G_nameAll 56 = .ok (.aload_n 0, 1) := by decide +kernel
theorem d_G_nameAll_57 : decode b_G_nameAll 57 = .ok (.aload_n 0, 1) := by decide +kernel
theorem d_G_nameAll_58 : decode b_G_nameAll 58 = .ok (.getfield 51, 3) := by decide +kernel
theorem d_G_nameAll_61 : decode b_G_nameAll 61 = .ok (.getfield 80, 3) := by decide +kernel
theorem d_G_nameAll_64 : decode b_G_nameAll 64 = .ok (.iload_n 1, 1) := by decide +kernel
theorem d_G_nameAll_65 : decode b_G_nameAll 65 = .ok (.iaload, 1) := by decide +kernel
theorem d_G_nameAll_66 : decode b_G_nameAll 66 = .ok (.invokevirtual 83, 3) := by decide +kernel
theorem d_G_nameAll_69 : decode b_G_nameAll 69 = .ok (.iinc 1 1, 3) := by decide +kernel
theorem d_G_nameAll_72 : decode b_G_nameAll 72 = .ok (.goto (-27), 3) := by decide +kernel
theorem d_G_nameAll_75 : decode b_G_nameAll 75 = .ok (.return_, 1) := by decide +kernel
theorem d_G_phiVariable_0 : decode b_G_phiVariable 0 = .ok (.iload_n 2, 1) := by decide +kernel
theorem d_G_phiVariable_1 : decode b_G_phiVariable 1 = .ok (.istore_n 3, 1) := by decide +kernel
theorem d_G_phiVariable_2 : decode b_G_phiVariable 2 = .ok (.iconst 0, 1) := by decide +kernel
theorem d_G_phiVariable_3 : decode b_G_phiVariable 3 = .ok (.istore 4, 2) := by decide +kernel
theorem d_G_phiVariable_5 : decode b_G_phiVariable 5 = .ok (.iload 4, 2) := by decide +kernel
theorem d_G_phiVariable_7 : decode b_G_phiVariable 7 = .ok (.bipush 6, 2) := by decide +kernel
theorem d_G_phiVariable_9 : decode b_G_phiVariable 9 = .ok (.if_icmp .ge 33, 3) := by decide +kernel
theorem d_G_phiVariable_12 : decode b_G_phiVariable 12 = .ok (.aload_n 0, 1) := by decide +kernel
theorem d_G_phiVariable_13 : decode b_G_phiVariable 13 = .ok (.getfield 9, 3) := by decide +kernel
theorem d_G_phiVariable_16 : decode b_G_phiVariable 16 = .ok (.iload_n 1, 1) := by decide +kernel
theorem d_G_phiVariable_17 : decode b_G_phiVariable 17 = .ok (.iaload, 1) := by decide +kernel
theorem d_G_phiVariable_18 : decode b_G_phiVariable 18 = .ok (.iload 4, 2) := by decide +kernel
theorem d_G_phiVariable_20 : decode b_G_phiVariable 20 = .ok (.invokestatic 87, 3) := by decide +kernel
theorem d_G_phiVariable_23 : decode b_G_phiVariable 23 = .ok (.ifCond .eq 13, 3) := by decide +kernel
theorem d_G_phiVariable_26 : decode b_G_phiVariable 26 = .ok (.iload_n 3, 1) := by decide +kernel
theorem d_G_phiVariable_27 : decode b_G_phiVariable 27 = .ok (.ifCond .ne 6, 3) := by decide +kernel
theorem d_G_phiVariable_30 : decode b_G_phiVariable 30 = .ok (.iload 4, 2) := by decide +kernel
theorem d_G_phiVariable_32 : decode b_G_phiVariable 32 = .ok (.ireturn, 1) := by decide +kernel
theorem d_G_phiVariable_33 : decode b_G_phiVariable 33 = .ok (.iinc 3 (-1), 3) := by decide +kernel
theorem d_G_phiVariable_36 : decode b_G_phiVariable 36 = .ok (.iinc 4 1, 3) := by decide +kernel
theorem d_G_phiVariable_39 : decode b_G_phiVariable 39 = .ok (.goto (-34), 3) := by decide +kernel
theorem d_G_phiVariable_42 : decode b_G_phiVariable 42 = .ok (.iconst (-1), 1) := by decide +kernel
theorem d_G_phiVariable_43 : decode b_G_phiVariable 43 = .ok (.ireturn, 1) := by decide +kernel
theorem d_G_findDefined_0 : decode b_G_findDefined 0 = .ok (.iconst 0, 1) := by decide +kernel
theorem d_G_findDefined_1 : decode b_G_findDefined 1 = .ok (.istore_n 1, 1) := by decide +kernel
theorem d_G_findDefined_2 : decode b_G_findDefined 2 = .ok (.iload_n 1, 1) := by decide +kernel
theorem d_G_findDefined_3 : decode b_G_findDefined 3 = .ok (.aload_n 0, 1) := by decide +kernel
theorem d_G_findDefined_4 : decode b_G_findDefined 4 = .ok (.getfield 47, 3) := by decide +kernel
theorem d_G_findDefined_7 : decode b_G_findDefined 7 = .ok (.getfield 91, 3) := by decide +kernel
theorem d_G_findDefined_10 : decode b_G_findDefined 10 = .ok (.if_icmp .ge 77, 3) := by decide +kernel
theorem d_G_findDefined_13 : decode b_G_findDefined 13 = .ok (.aload_n 0, 1) := by decide +kernel
theorem d_G_findDefined_14 : decode b_G_findDefined 14 = .ok (.getfield 15, 3) := by decide +kernel
theorem d_G_findDefined_17 : decode b_G_findDefined 17 = .ok (.iload_n 1, 1) := by decide +kernel
theorem d_G_findDefined_18 : decode b_G_findDefined 18 = .ok (.iconst 0, 1) := by decide +kernel
theorem d_G_findDefined_19 : decode b_G_findDefined 19 = .ok (.iastore, 1) := by decide +kernel
theorem d_G_findDefined_20 : decode b_G_findDefined 20 = .ok (.iconst 0, 1) := by decide +kernel
theorem d_G_findDefined_21 : decode b_G_findDefined 21 = .ok (.istore_n 2, 1) := by decide +kernel
theorem d_G_findDefined_22 : decode b_G_findDefined 22 = .ok (.iload_n 2, 1) := by decide +kernel
theorem d_G_findDefined_23 : decode b_G_findDefined 23 = .ok (.aload_n 0, 1) := by decide +kernel
theorem d_G_findDefined_24 : decode b_G_findDefined 24 = .ok (.getfield 47, 3) := by decide +kernel
theorem d_G_findDefined_27 : decode b_G_findDefined 27 = .ok (.getfield 96, 3) := by decide +kernel
theorem d_G_findDefined_30 : decode b_G_findDefined 30 = .ok (.iload_n 1, 1) := by decide +kernel
theorem d_G_findDefined_31 : decode b_G_findDefined 31 = .ok (.iaload, 1) := by decide +kernel
theorem d_G_findDefined_32 : decode b_G_findDefined 32 = .ok (.if_icmp .ge 49, 3) := by decide +kernel
theorem d_G_findDefined_35 : decode b_G_findDefined 35 = .ok (.aload_n 0, 1) := by decide +kernel
theorem d_G_findDefined_36 : decode b_G_findDefined 36 = .ok (.getfield 47, 3) := by decide +kernel
theorem d_G_findDefined_39 : decode b_G_findDefined 39 = .ok (.getfield 99, 3) := by decide +kernel
theorem d_G_findDefined_42 : decode b_G_findDefined 42 = .ok (.iload_n 1, 1) := by decide +kernel
theorem d_G_findDefined_43 : decode b_G_findDefined 43 = .ok (.aaload, 1) := by decide +kernel
theorem d_G_findDefined_44 : decode b_G_findDefined 44 = .ok (.iload_n 2, 1) := by decide +kernel
theorem d_G_findDefined_45 : decode b_G_findDefined 45 = .ok (.iaload, 1) := by decide +kernel
theorem d_G_findDefined_46 : decode b_G_findDefined 46 = .ok (.invokestatic 102, 3) := by decide +kernel
theorem d_G_findDefined_49 : decode b_G_findDefined 49 = .ok (.ifCond .eq 26, 3) := by decide +kernel
theorem d_G_findDefined_52 : decode b_G_findDefined 52 = .ok (.aload_n 0, 1) := by decide +kernel
theorem d_G_findDefined_53 : decode b_G_findDefined 53 = .ok (.getfield 15, 3) := by decide +kernel
theorem d_G_findDefined_56 : decode b_G_findDefined 56 = .ok (.iload_n 1, 1) := by decide +kernel
theorem d_G_findDefined_57 : decode b_G_findDefined 57 = .ok (.dup2, 1) := by decide +kernel
theorem d_G_findDefined_58 : decode b_G_findDefined 58 = .ok (.iaload, 1) := by decide +kernel
theorem d_G_findDefined_59 : decode b_G_findDefined 59 = .ok (.aload_n 0, 1) := by decide +kernel
theorem d_G_findDefined_60 : decode b_G_findDefined 60 = .ok (.getfield 47, 3) := by decide +kernel
theorem d_G_findDefined_63 : decode b_G_findDefined 63 = .ok (.getfield 106, 3) := by decide +kernel
theorem d_G_findDefined_66 : decode b_G_findDefined 66 = .ok (.iload_n 1, 1) := by decide +kernel
theorem d_G_findDefined_67 : decode b_G_findDefined 67 = .ok (.aaload, 1) := by decide +kernel
theorem d_G_findDefined_68 : decode b_G_findDefined 68 = .ok (.iload_n 2, 1) := by decide +kernel
theorem d_G_findDefined_69 : decode b_G_findDefined 69 = .ok (.iaload, 1) := by decide +kernel
theorem d_G_findDefined_70 : decode b_G_findDefined 70 = .ok (.invokestatic 109, 3) := by decide +kernel
theorem d_G_findDefined_73 : decode b_G_findDefined 73 = .ok (.ior, 1) := by decide +kernel
theorem d_G_findDefined_74 : decode b_G_findDefined 74 = .ok (.iastore, 1) := by decide +kernel
theorem d_G_findDefined_75 : decode b_G_findDefined 75 = .ok (.iinc 2 1, 3) := by decide +kernel
theorem d_G_findDefined_78 : decode b_G_findDefined 78 = .ok (.goto (-56), 3) := by decide +kernel
theorem d_G_findDefined_81 : decode b_G_findDefined 81 = .ok (.iinc 1 1, 3) := by decide +kernel
theorem d_G_findDefined_84 : decode b_G_findDefined 84 = .ok (.goto (-82), 3) := by decide +kernel
theorem d_G_findDefined_87 : decode b_G_findDefined 87 = .ok (.return_, 1) := by decide +kernel
theorem d_G_placePhis_0 : decode b_G_placePhis 0 = .ok (.aload_n 0, 1) := by decide +kernel
theorem d_G_placePhis_1 : decode b_G_placePhis 1 = .ok (.getfield 9, 3) := by decide +kernel
theorem d_G_placePhis_4 : decode b_G_placePhis 4 = .ok (.iconst 0, 1) := by decide +kernel
theorem d_G_placePhis_5 : decode b_G_placePhis 5 = .ok (.invokestatic 61, 3) := by decide +kernel
theorem d_G_placePhis_8 : decode b_G_placePhis 8 = .ok (.iconst 1, 1) := by decide +kernel
theorem d_G_placePhis_9 : decode b_G_placePhis 9 = .ok (.istore_n 1, 1) := by decide +kernel
theorem d_G_placePhis_10 : decode b_G_placePhis 10 = .ok (.iconst 0, 1) := by decide +kernel
theorem d_G_placePhis_11 : decode b_G_placePhis 11 = .ok (.istore_n 2, 1) := by decide +kernel
theorem d_G_placePhis_12 : decode b_G_placePhis 12 = .ok (.iload_n 1, 1) := by decide +kernel
theorem d_G_placePhis_13 : decode b_G_placePhis 13 = .ok (.ifCond .eq 68, 3) := by decide +kernel
theorem d_G_placePhis_16 : decode b_G_placePhis 16 = .ok (.iload_n 2, 1) := by decide +kernel
theorem d_G_placePhis_17 : decode b_G_placePhis 17 = .ok (.sipush 1000, 3) := by decide +kernel
theorem d_G_placePhis_20 : decode b_G_placePhis 20 = .ok (.if_icmp .ge 61, 3) := by decide +kernel
theorem d_G_placePhis_23 : decode b_G_placePhis 23 = .ok (.iconst 0, 1) := by decide +kernel
theorem d_G_placePhis_24 : decode b_G_placePhis 24 = .ok (.istore_n 1, 1) := by decide +kernel
theorem d_G_placePhis_25 : decode b_G_placePhis 25 = .ok (.iconst 0, 1) := by decide +kernel
theorem d_G_placePhis_26 : decode b_G_placePhis 26 = .ok (.istore_n 3, 1) := by decide +kernel
theorem d_G_placePhis_27 : decode b_G_placePhis 27 = .ok (.iload_n 3, 1) := by decide +kernel
theorem d_G_placePhis_28 : decode b_G_placePhis 28 = .ok (.aload_n 0, 1) := by decide +kernel
theorem d_G_placePhis_29 : decode b_G_placePhis 29 = .ok (.getfield 47, 3) := by decide +kernel
theorem d_G_placePhis_32 : decode b_G_placePhis 32 = .ok (.getfield 91, 3) := by decide +kernel
theorem d_G_placePhis_35 : decode b_G_placePhis 35 = .ok (.if_icmp .ge 40, 3) := by decide +kernel
theorem d_G_placePhis_38 : decode b_G_placePhis 38 = .ok (.aload_n 0, 1) := by decide +kernel
theorem d_G_placePhis_39 : decode b_G_placePhis 39 = .ok (.aload_n 0, 1) := by decide +kernel
theorem d_G_placePhis_40 : decode b_G_placePhis 40 = .ok (.getfield 51, 3) := by decide +kernel
theorem d_G_placePhis_43 : decode b_G_placePhis 43 = .ok (.getfield 113, 3) := by decide +kernel
theorem d_G_placePhis_46 : decode b_G_placePhis 46 = .ok (.iload_n 3, 1) := by decide +kernel
theorem d_G_placePhis_47 : decode b_G_placePhis 47 = .ok (.iaload, 1) := by decide +kernel
theorem d_G_placePhis_48 : decode b_G_placePhis 48 = .ok (.aload_n 0, 1) := by decide +kernel
theorem d_G_placePhis_49 : decode b_G_placePhis 49 = .ok (.getfield 15, 3) := by decide +kernel
theorem d_G_placePhis_52 : decode b_G_placePhis 52 = .ok (.iload_n 3, 1) := by decide +kernel
theorem d_G_placePhis_53 : decode b_G_placePhis 53 = .ok (.iaload, 1) := by decide +kernel
theorem d_G_placePhis_54 : decode b_G_placePhis 54 = .ok (.aload_n 0, 1) := by decide +kernel
theorem d_G_placePhis_55 : decode b_G_placePhis 55 = .ok (.getfield 9, 3) := by decide +kernel
theorem d_G_placePhis_58 : decode b_G_placePhis 58 = .ok (.iload_n 3, 1) := by decide +kernel
theorem d_G_placePhis_59 : decode b_G_placePhis 59 = .ok (.iaload, 1) := by decide +kernel
theorem d_G_placePhis_60 : decode b_G_placePhis 60 = .ok (.ior, 1) := by decide +kernel
theorem d_G_placePhis_61 : decode b_G_placePhis 61 = .ok (.invokevirtual 116, 3) := by decide +kernel
theorem d_G_placePhis_64 : decode b_G_placePhis 64 = .ok (.ifCond .eq 5, 3) := by decide +kernel
theorem d_G_placePhis_67 : decode b_G_placePhis 67 = .ok (.iconst 1, 1) := by decide +kernel
theorem d_G_placePhis_68 : decode b_G_placePhis 68 = .ok (.istore_n 1, 1) := by decide +kernel
theorem d_G_placePhis_69 : decode b_G_placePhis 69 = .ok (.iinc 3 1, 3) := by decide +kernel
theorem d_G_placePhis_72 : decode b_G_placePhis 72 = .ok (.goto (-45), 3) := by decide +kernel
theorem d_G_placePhis_75 : decode b_G_placePhis 75 = .ok (.iinc 2 1, 3) := by decide +kernel
theorem d_G_placePhis_78 : decode b_G_placePhis 78 = .ok (.goto (-66), 3) := by decide +kernel
theorem d_G_placePhis_81 : decode b_G_placePhis 81 = .ok (.return_, 1) := by decide +kernel
theorem d_G_spread_0 : decode b_G_spread 0 = .ok (.iconst 0, 1) := by decide +kernel
theorem d_G_spread_1 : decode b_G_spread 1 = .ok (.istore_n 3, 1) := by decide +kernel
theorem d_G_spread_2 : decode b_G_spread 2 = .ok (.iconst 0, 1) := by decide +kernel
theorem d_G_spread_3 : decode b_G_spread 3 = .ok (.istore 4, 2) := by decide +kernel
theorem d_G_spread_5 : decode b_G_spread 5 = .ok (.iload 4, 2) := by decide +kernel
theorem d_G_spread_7 : decode b_G_spread 7 = .ok (.aload_n 0, 1) := by decide +kernel
theorem d_G_spread_8 : decode b_G_spread 8 = .ok (.getfield 47, 3) := by decide +kernel
theorem d_G_spread_11 : decode b_G_spread 11 = .ok (.getfield 91, 3) := by decide +kernel
theorem d_G_spread_14 : decode b_G_spread 14 = .ok (.if_icmp .ge 45, 3) := by decide +kernel
theorem d_G_spread_17 : decode b_G_spread 17 = .ok (.iload_n 1, 1) := by decide +kernel
theorem d_G_spread_18 : decode b_G_spread 18 = .ok (.iload 4, 2) := by decide +kernel
theorem d_G_spread_20 : decode b_G_spread 20 = .ok (.invokestatic 87, 3) := by decide +kernel
theorem d_G_spread_23 : decode b_G_spread 23 = .ok (.ifCond .eq 30, 3) := by decide +kernel
theorem d_G_spread_26 : decode b_G_spread 26 = .ok (.iload_n 2, 1) := by decide +kernel
theorem d_G_spread_27 : decode b_G_spread 27 = .ok (.aload_n 0, 1) := by decide +kernel
theorem d_G_spread_28 : decode b_G_spread 28 = .ok (.getfield 9, 3) := by decide +kernel
theorem d_G_spread_31 : decode b_G_spread 31 = .ok (.iload 4, 2) := by decide +kernel
theorem d_G_spread_33 : decode b_G_spread 33 = .ok (.iaload, 1) := by decide +kernel
theorem d_G_spread_34 : decode b_G_spread 34 = .ok (.iconst (-1), 1) := by decide +kernel
theorem d_G_spread_35 : decode b_G_spread 35 = .ok (.ixor, 1) := by decide +kernel
theorem d_G_spread_36 : decode b_G_spread 36 = .ok (.iand, 1) := by decide +kernel
theorem d_G_spread_37 : decode b_G_spread 37 = .ok (.ifCond .eq 16, 3) := by decide +kernel
theorem d_G_spread_40 : decode b_G_spread 40 = .ok (.aload_n 0, 1) := by decide +kernel
theorem d_G_spread_41 : decode b_G_spread 41 = .ok (.getfield 9, 3) := by decide +kernel
theorem d_G_spread_44 : decode b_G_spread 44 = .ok (.iload 4, 2) := by decide +kernel
theorem d_G_spread_46 : decode b_G_spread 46 = .ok (.dup2, 1) := by decide +kernel
theorem d_G_spread_47 : decode b_G_spread 47 = .ok (.iaload, 1) := by decide +kernel
theorem d_G_spread_48 : decode b_G_spread 48 = .ok (.iload_n 2, 1) := by decide +kernel
theorem d_G_spread_49 : decode b_G_spread 49 = .ok (.ior, 1) := by decide +kernel
theorem d_G_spread_50 : decode b_G_spread 50 = .ok (.iastore, 1) := by decide +kernel
theorem d_G_spread_51 : decode b_G_spread 51 = .ok (.iconst 1, 1) := by decide +kernel
theorem d_G_spread_52 : decode b_G_spread 52 = .ok (.istore_n 3, 1) := by decide +kernel
theorem d_G_spread_53 : decode b_G_spread 53 = .ok (.iinc 4 1, 3) := by decide +kernel
theorem d_G_spread_56 : decode b_G_spread 56 = .ok (.goto (-51), 3) := by decide +kernel
theorem d_G_spread_59 : decode b_G_spread 59 = .ok (.iload_n 3, 1) := by decide +kernel
theorem d_G_spread_60 : decode b_G_spread 60 = .ok (.ireturn, 1) := by decide +kernel
theorem d_G_nameBlock_0 : decode b_G_nameBlock 0 = .ok (.aload_n 0, 1) := by decide +kernel
theorem d_G_nameBlock_1 : decode b_G_nameBlock 1 = .ok (.getfield 23, 3) := by decide +kernel
theorem d_G_nameBlock_4 : decode b_G_nameBlock 4 = .ok (.iload_n 1, 1) := by decide +kernel
theorem d_G_nameBlock_5 : decode b_G_nameBlock 5 = .ok (.aaload, 1) := by decide +kernel
theorem d_G_nameBlock_6 : decode b_G_nameBlock 6 = .ok (.astore_n 2, 1) := by decide +kernel
theorem d_G_nameBlock_7 : decode b_G_nameBlock 7 = .ok (.aload_n 0, 1) := by decide +kernel
theorem d_G_nameBlock_8 : decode b_G_nameBlock 8 = .ok (.getfield 51, 3) := by decide +kernel
theorem d_G_nameBlock_11 : decode b_G_nameBlock 11 = .ok (.getfield 119, 3) := by decide +kernel
theorem d_G_nameBlock_14 : decode b_G_nameBlock 14 = .ok (.iload_n 1, 1) := by decide +kernel
theorem d_G_nameBlock_15 : decode b_G_nameBlock 15 = .ok (.iaload, 1) := by decide +kernel
theorem d_G_nameBlock_16 : decode b_G_nameBlock 16 = .ok (.istore_n 3, 1) := by decide +kernel
theorem d_G_nameBlock_17 : decode b_G_nameBlock 17 = .ok (.iconst 0, 1) := by decide +kernel
theorem d_G_nameBlock_18 : decode b_G_nameBlock 18 = .ok (.istore 4, 2) := by decide +kernel
theorem d_G_nameBlock_20 : decode b_G_nameBlock 20 = .ok (.iload 4, 2) := by decide +kernel
theorem d_G_nameBlock_22 : decode b_G_nameBlock 22 = .ok (.bipush 6, 2) := by decide +kernel
theorem d_G_nameBlock_24 : decode b_G_nameBlock 24 = .ok (.if_icmp .ge 32, 3) := by decide +kernel
theorem d_G_nameBlock_27 : decode b_G_nameBlock 27 = .ok (.aload_n 2, 1) := by decide +kernel
theorem d_G_nameBlock_28 : decode b_G_nameBlock 28 = .ok (.iload 4, 2) := by decide +kernel
theorem d_G_nameBlock_30 : decode b_G_nameBlock 30 = .ok (.iload_n 3, 1) := by decide +kernel
theorem d_G_nameBlock_31 : decode b_G_nameBlock 31 = .ok (.iconst (-1), 1) := by decide +kernel
theorem d_G_nameBlock_32 : decode b_G_nameBlock 32 = .ok (.if_icmp .ne 8, 3) := by decide +kernel
theorem d_G_nameBlock_35 : decode b_G_nameBlock 35 = .ok (.iload 4, 2) := by decide +kernel
theorem d_G_nameBlock_37 : decode b_G_nameBlock 37 = .ok (.goto 12, 3) := by decide +kernel
theorem d_G_nameBlock_40 : decode b_G_nameBlock 40 = .ok (.aload_n 0, 1) := by decide +kernel
theorem d_G_nameBlock_41 : decode b_G_nameBlock 41 = .ok (.getfield 23, 3) := by decide +kernel
theorem d_G_nameBlock_44 : decode b_G_nameBlock 44 = .ok (.iload_n 3, 1) := by decide +kernel
theorem d_G_nameBlock_45 : decode b_G_nameBlock 45 = .ok (.aaload, 1) := by decide +kernel
theorem d_G_nameBlock_46 : decode b_G_nameBlock 46 = .ok (.iload 4, 2) := by decide +kernel
theorem d_G_nameBlock_48 : decode b_G_nameBlock 48 = .ok (.iaload, 1) := by decide +kernel
theorem d_G_nameBlock_49 : decode b_G_nameBlock 49 = .ok (.iastore, 1) := by decide +kernel
theorem d_G_nameBlock_50 : decode b_G_nameBlock 50 = .ok (.iinc 4 1, 3) := by decide +kernel
theorem d_G_nameBlock_53 : decode b_G_nameBlock 53 = .ok (.goto (-33), 3) := by decide +kernel
theorem d_G_nameBlock_56 : decode b_G_nameBlock 56 = .ok (.iconst 0, 1) := by decide +kernel
theorem d_G_nameBlock_57 : decode b_G_nameBlock 57 = .ok (.istore 4, 2) := by decide +kernel
theorem d_G_nameBlock_59 : decode b_G_nameBlock 59 = .ok (.iload 4, 2) := by decide +kernel
theorem d_G_nameBlock_61 : decode b_G_nameBlock 61 = .ok (.bipush 6, 2) := by decide +kernel
theorem d_G_nameBlock_63 : decode b_G_nameBlock 63 = .ok (.if_icmp .ge 48, 3) := by decide +kernel
theorem d_G_nameBlock_66 : decode b_G_nameBlock 66 = .ok (.aload_n 0, 1) := by decide +kernel
theorem d_G_nameBlock_67 : decode b_G_nameBlock 67 = .ok (.getfield 9, 3) := by decide +kernel
theorem d_G_nameBlock_70 : decode b_G_nameBlock 70 = .ok (.iload_n 1, 1) := by decide +kernel
theorem d_G_nameBlock_71 : decode b_G_nameBlock 71 = .ok (.iaload, 1) := by decide +kernel
theorem d_G_nameBlock_72 : decode b_G_nameBlock 72 = .ok (.iload 4, 2) := by decide +kernel
theorem d_G_nameBlock_74 : decode b_G_nameBlock 74 = .ok (.invokestatic 87, 3) := by decide +kernel
theorem d_G_nameBlock_77 : decode b_G_nameBlock 77 = .ok (.ifCond .eq 28, 3) := by decide +kernel
theorem d_G_nameBlock_80 : decode b_G_nameBlock 80 = .ok (.aload_n 2, 1) := by decide +kernel
theorem d_G_nameBlock_81 : decode b_G_nameBlock 81 = .ok (.iload 4, 2) := by decide +kernel
theorem d_G_nameBlock_83 : decode b_G_nameBlock 83 = .ok (.aload_n 0, 1) := by decide +kernel
theorem d_G_nameBlock_84 : decode b_G_nameBlock 84 = .ok (.iload_n 1, 1) := by decide +kernel
theorem d_G_nameBlock_85 : decode b_G_nameBlock 85 = .ok (.iconst (-1), 1) := by decide +kernel
theorem d_G_nameBlock_86 : decode b_G_nameBlock 86 = .ok (.iload 4, 2) := by decide +kernel
theorem d_G_nameBlock_88 : decode b_G_nameBlock 88 = .ok (.invokevirtual 71, 3) := by decide +kernel
theorem d_G_nameBlock_91 : decode b_G_nameBlock 91 = .ok (.iastore, 1) := by decide +kernel
theorem d_G_nameBlock_92 : decode b_G_nameBlock 92 = .ok (.aload_n 0, 1) := by decide +kernel
theorem d_G_nameBlock_93 : decode b_G_nameBlock 93 = .ok (.getfield 20, 3) := by decide +kernel
theorem d_G_nameBlock_96 : decode b_G_nameBlock 96 = .ok (.iload_n 1, 1) := by decide +kernel
theorem d_G_nameBlock_97 : decode b_G_nameBlock 97 = .ok (.aaload, 1) := by decide +kernel
theorem d_G_nameBlock_98 : decode b_G_nameBlock 98 = .ok (.iload 4, 2) := by decide +kernel
theorem d_G_nameBlock_100 : decode b_G_nameBlock 100 = .ok (.aload_n 2, 1) := by decide +kernel
theorem d_G_nameBlock_101 : decode b_G_nameBlock 101 = .ok (.iload 4, 2) := by decide +kernel
theorem d_G_nameBlock_103 : decode b_G_nameBlock 103 = .ok (.iaload, 1) := by decide +kernel
theorem d_G_nameBlock_104 : decode b_G_nameBlock 104 = .ok (.iastore, 1) := by decide +kernel
theorem d_G_nameBlock_105 : decode b_G_nameBlock 105 = .ok (.iinc 4 1, 3) := by decide +kernel
theorem d_G_nameBlock_108 : decode b_G_nameBlock 108 = .ok (.goto (-49), 3) := by decide +kernel
theorem d_G_nameBlock_111 : decode b_G_nameBlock 111 = .ok (.iconst 0, 1) := by decide +kernel
theorem d_G_nameBlock_112 : decode b_G_nameBlock 112 = .ok (.istore 4, 2) := by decide +kernel
theorem d_G_nameBlock_114 : decode b_G_nameBlock 114 = .ok (.iload 4, 2) := by decide +kernel
theorem d_G_nameBlock_116 : decode b_G_nameBlock 116 = .ok (.aload_n 0, 1) := by decide +kernel
theorem d_G_nameBlock_117 : decode b_G_nameBlock 117 = .ok (.getfield 47, 3) := by decide +kernel
theorem d_G_nameBlock_120 : decode b_G_nameBlock 120 = .ok (.getfield 96, 3) := by decide +kernel
theorem d_G_nameBlock_123 : decode b_G_nameBlock 123 = .ok (.iload_n 1, 1) := by decide +kernel
theorem d_G_nameBlock_124 : decode b_G_nameBlock 124 = .ok (.iaload, 1) := by decide +kernel
theorem d_G_nameBlock_125 : decode b_G_nameBlock 125 = .ok (.if_icmp .ge 17, 3) := by decide +kernel
theorem d_G_nameBlock_128 : decode b_G_nameBlock 128 = .ok (.aload_n 0, 1) := by decide +kernel
theorem d_G_nameBlock_129 : decode b_G_nameBlock 129 = .ok (.iload_n 1, 1) := by decide +kernel
theorem d_G_nameBlock_130 : decode b_G_nameBlock 130 = .ok (.iload 4, 2) := by decide +kernel
theorem d_G_nameBlock_132 : decode b_G_nameBlock 132 = .ok (.aload_n 2, 1) := by decide +kernel
theorem d_G_nameBlock_133 : decode b_G_nameBlock 133 = .ok (.invokevirtual 122, 3) := by decide +kernel
theorem d_G_nameBlock_136 : decode b_G_nameBlock 136 = .ok (.iinc 4 1, 3) := by decide +kernel
theorem d_G_nameBlock_139 : decode b_G_nameBlock 139 = .ok (.goto (-25), 3) := by decide +kernel
theorem d_G_nameBlock_142 : decode b_G_nameBlock 142 = .ok (.aload_n 0, 1) := by decide +kernel
theorem d_G_nameBlock_143 : decode b_G_nameBlock 143 = .ok (.getfield 47, 3) := by decide +kernel
theorem d_G_nameBlock_146 : decode b_G_nameBlock 146 = .ok (.getfield 126, 3) := by decide +kernel
theorem d_G_nameBlock_149 : decode b_G_nameBlock 149 = .ok (.iload_n 1, 1) := by decide +kernel
theorem d_G_nameBlock_150 : decode b_G_nameBlock 150 = .ok (.iaload, 1) := by decide +kernel
theorem d_G_nameBlock_151 : decode b_G_nameBlock 151 = .ok (.iconst 2, 1) := by decide +kernel
theorem d_G_nameBlock_152 : decode b_G_nameBlock 152 = .ok (.if_icmp .ne 20, 3) := by decide +kernel
theorem d_G_nameBlock_155 : decode b_G_nameBlock 155 = .ok (.aload_n 0, 1) := by decide +kernel
theorem d_G_nameBlock_156 : decode b_G_nameBlock 156 = .ok (.getfield 35, 3) := by decide +kernel
theorem d_G_nameBlock_159 : decode b_G_nameBlock 159 = .ok (.iload_n 1, 1) := by decide +kernel
theorem d_G_nameBlock_160 : decode b_G_nameBlock 160 = .ok (.aload_n 2, 1) := by decide +kernel
theorem d_G_nameBlock_161 : decode b_G_nameBlock 161 = .ok (.aload_n 0, 1) := by decide +kernel
theorem d_G_nameBlock_162 : decode b_G_nameBlock 162 = .ok (.getfield 47, 3) := by decide +kernel
theorem d_G_nameBlock_165 : decode b_G_nameBlock 165 = .ok (.getfield 129, 3) := by decide +kernel
theorem d_G_nameBlock_168 : decode b_G_nameBlock 168 = .ok (.iload_n 1, 1) := by decide +kernel
theorem d_G_nameBlock_169 : decode b_G_nameBlock 169 = .ok (.iaload, 1) := by decide +kernel
theorem d_G_nameBlock_170 : decode b_G_nameBlock 170 = .ok (.iaload, 1) := by decide +kernel
theorem d_G_nameBlock_171 : decode b_G_nameBlock 171 = .ok (.iastore, 1) := by decide +kernel
theorem d_G_nameBlock_172 : decode b_G_nameBlock 172 = .ok (.return_, 1) := by decide +kernel
theorem d_G_nameInstruction_0 : decode b_G_nameInstruction 0 = .ok (.aload_n 0, 1) := by decide +kernel
theorem d_G_nameInstruction_1 : decode b_G_nameInstruction 1 = .ok (.getfield 47, 3) := by decide +kernel
theorem d_G_nameInstruction_4 : decode b_G_nameInstruction 4 = .ok (.getfield 99, 3) := by decide +kernel
theorem d_G_nameInstruction_7 : decode b_G_nameInstruction 7 = .ok (.iload_n 1, 1) := by decide +kernel
theorem d_G_nameInstruction_8 : decode b_G_nameInstruction 8 = .ok (.aaload, 1) := by decide +kernel
theorem d_G_nameInstruction_9 : decode b_G_nameInstruction 9 = .ok (.iload_n 2, 1) := by decide +kernel
theorem d_G_nameInstruction_10 : decode b_G_nameInstruction 10 = .ok (.iaload, 1) := by decide +kernel
theorem d_G_nameInstruction_11 : decode b_G_nameInstruction 11 = .ok (.istore 4, 2) := by decide +kernel
theorem d_G_nameInstruction_13 : decode b_G_nameInstruction 13 = .ok (.aload_n 0, 1) := by decide +kernel
theorem d_G_nameInstruction_14 : decode b_G_nameInstruction 14 = .ok (.getfield 29, 3) := by decide +kernel
theorem d_G_nameInstruction_17 : decode b_G_nameInstruction 17 = .ok (.iload_n 1, 1) := by decide +kernel
theorem d_G_nameInstruction_18 : decode b_G_nameInstruction 18 = .ok (.aaload, 1) := by decide +kernel
theorem d_G_nameInstruction_19 : decode b_G_nameInstruction 19 = .ok (.iload_n 2, 1) := by decide +kernel
theorem d_G_nameInstruction_20 : decode b_G_nameInstruction 20 = .ok (.iload 4, 2) := by decide +kernel
theorem d_G_nameInstruction_22 : decode b_G_nameInstruction 22 = .ok (.invokestatic 132, 3) := by decide +kernel
theorem d_G_nameInstruction_25 : decode b_G_nameInstruction 25 = .ok (.ifCond .eq 19, 3) := by decide +kernel
theorem d_G_nameInstruction_28 : decode b_G_nameInstruction 28 = .ok (.aload_n 3, 1) := by decide +kernel
theorem d_G_nameInstruction_29 : decode b_G_nameInstruction 29 = .ok (.aload_n 0, 1) := by decide +kernel
theorem d_G_nameInstruction_30 : decode b_G_nameInstruction 30 = .ok (.getfield 47, 3) := by decide +kernel
theorem d_G_nameInstruction_33 : decode b_G_nameInstruction 33 = .ok (.getfield 135, 3) := by decide +kernel
theorem d_G_nameInstruction_36 : decode b_G_nameInstruction 36 = .ok (.iload_n 1, 1) := by decide +kernel
theorem d_G_nameInstruction_37 : decode b_G_nameInstruction 37 = .ok (.aaload, 1) := by decide +kernel
theorem d_G_nameInstruction_38 : decode b_G_nameInstruction 38 = .ok (.iload_n 2, 1) := by decide +kernel
theorem d_G_nameInstruction_39 : decode b_G_nameInstruction 39 = .ok (.iaload, 1) := by decide +kernel
theorem d_G_nameInstruction_40 : decode b_G_nameInstruction 40 = .ok (.iaload, 1) := by decide +kernel
theorem d_G_nameInstruction_41 : decode b_G_nameInstruction 41 = .ok (.goto 4, 3) := by decide +kernel
theorem d_G_nameInstruction_44 : decode b_G_nameInstruction 44 = .ok (.iconst (-1), 1) := by decide +kernel
theorem d_G_nameInstruction_45 : decode b_G_nameInstruction 45 = .ok (.iastore, 1) := by decide +kernel
theorem d_G_nameInstruction_46 : decode b_G_nameInstruction 46 = .ok (.aload_n 0, 1) := by decide +kernel
theorem d_G_nameInstruction_47 : decode b_G_nameInstruction 47 = .ok (.getfield 32, 3) := by decide +kernel
theorem d_G_nameInstruction_50 : decode b_G_nameInstruction 50 = .ok (.iload_n 1, 1) := by decide +kernel
theorem d_G_nameInstruction_51 : decode b_G_nameInstruction 51 = .ok (.aaload, 1) := by decide +kernel
theorem d_G_nameInstruction_52 : decode b_G_nameInstruction 52 = .ok (.iload_n 2, 1) := by decide +kernel
theorem d_G_nameInstruction_53 : decode b_G_nameInstruction 53 = .ok (.iload 4, 2) := by decide +kernel
theorem d_G_nameInstruction_55 : decode b_G_nameInstruction 55 = .ok (.invokestatic 138, 3) := by decide +kernel
theorem d_G_nameInstruction_58 : decode b_G_nameInstruction 58 = .ok (.ifCond .eq 19, 3) := by decide +kernel
theorem d_G_nameInstruction_61 : decode b_G_nameInstruction 61 = .ok (.aload_n 3, 1) := by decide +kernel
theorem d_G_nameInstruction_62 : decode b_G_nameInstruction 62 = .ok (.aload_n 0, 1) := by decide +kernel
theorem d_G_nameInstruction_63 : decode b_G_nameInstruction 63 = .ok (.getfield 47, 3) := by decide +kernel
theorem d_G_nameInstruction_66 : decode b_G_nameInstruction 66 = .ok (.getfield 141, 3) := by decide +kernel
theorem d_G_nameInstruction_69 : decode b_G_nameInstruction 69 = .ok (.iload_n 1, 1) := by decide +kernel
theorem d_G_nameInstruction_70 : decode b_G_nameInstruction 70 = .ok (.aaload, 1) := by decide +kernel
theorem d_G_nameInstruction_71 : decode b_G_nameInstruction 71 = .ok (.iload_n 2, 1) := by decide +kernel
theorem d_G_nameInstruction_72 : decode b_G_nameInstruction 72 = .ok (.iaload, 1) := by decide +kernel
theorem d_G_nameInstruction_73 : decode b_G_nameInstruction 73 = .ok (.iaload, 1) := by decide +kernel
theorem d_G_nameInstruction_74 : decode b_G_nameInstruction 74 = .ok (.goto 4, 3) := by decide +kernel
theorem d_G_nameInstruction_77 : decode b_G_nameInstruction 77 = .ok (.iconst (-1), 1) := by decide +kernel
theorem d_G_nameInstruction_78 : decode b_G_nameInstruction 78 = .ok (.iastore, 1) := by decide +kernel
theorem d_G_nameInstruction_79 : decode b_G_nameInstruction 79 = .ok (.aload_n 0, 1) := by decide +kernel
theorem d_G_nameInstruction_80 : decode b_G_nameInstruction 80 = .ok (.getfield 26, 3) := by decide +kernel
theorem d_G_nameInstruction_83 : decode b_G_nameInstruction 83 = .ok (.iload_n 1, 1) := by decide +kernel
theorem d_G_nameInstruction_84 : decode b_G_nameInstruction 84 = .ok (.aaload, 1) := by decide +kernel
theorem d_G_nameInstruction_85 : decode b_G_nameInstruction 85 = .ok (.iload_n 2, 1) := by decide +kernel
theorem d_G_nameInstruction_86 : decode b_G_nameInstruction 86 = .ok (.iconst (-1), 1) := by decide +kernel
theorem d_G_nameInstruction_87 : decode b_G_nameInstruction 87 = .ok (.iastore, 1) := by decide +kernel
theorem d_G_nameInstruction_88 : decode b_G_nameInstruction 88 = .ok (.iload 4, 2) := by decide +kernel
theorem d_G_nameInstruction_90 : decode b_G_nameInstruction 90 = .ok (.invokestatic 102, 3) := by decide +kernel
theorem d_G_nameInstruction_93 : decode b_G_nameInstruction 93 = .ok (.ifCond .eq 40, 3) := by decide +kernel
theorem d_G_nameInstruction_96 : decode b_G_nameInstruction 96 = .ok (.aload_n 0, 1) := by decide +kernel
theorem d_G_nameInstruction_97 : decode b_G_nameInstruction 97 = .ok (.getfield 47, 3) := by decide +kernel
theorem d_G_nameInstruction_100 : decode b_G_nameInstruction 100 = .ok (.getfield 106, 3) := by decide +kernel
theorem d_G_nameInstruction_103 : decode b_G_nameInstruction 103 = .ok (.iload_n 1, 1) := by decide +kernel
theorem d_G_nameInstruction_104 : decode b_G_nameInstruction 104 = .ok (.aaload, 1) := by decide +kernel
theorem d_G_nameInstruction_105 : decode b_G_nameInstruction 105 = .ok (.iload_n 2, 1) := by decide +kernel
theorem d_G_nameInstruction_106 : decode b_G_nameInstruction 106 = .ok (.iaload, 1) := by decide +kernel
theorem d_G_nameInstruction_107 : decode b_G_nameInstruction 107 = .ok (.istore 5, 2) := by decide +kernel
theorem d_G_nameInstruction_109 : decode b_G_nameInstruction 109 = .ok (.aload_n 3, 1) := by decide +kernel
theorem d_G_nameInstruction_110 : decode b_G_nameInstruction 110 = .ok (.iload 5, 2) := by decide +kernel
theorem d_G_nameInstruction_112 : decode b_G_nameInstruction 112 = .ok (.aload_n 0, 1) := by decide +kernel
theorem d_G_nameInstruction_113 : decode b_G_nameInstruction 113 = .ok (.iload_n 1, 1) := by decide +kernel
theorem d_G_nameInstruction_114 : decode b_G_nameInstruction 114 = .ok (.iload_n 2, 1) := by decide +kernel
theorem d_G_nameInstruction_115 : decode b_G_nameInstruction 115 = .ok (.iload 5, 2) := by decide +kernel
theorem d_G_nameInstruction_117 : decode b_G_nameInstruction 117 = .ok (.invokevirtual 71, 3) := by decide +kernel
theorem d_G_nameInstruction_120 : decode b_G_nameInstruction 120 = .ok (.iastore, 1) := by decide +kernel
theorem d_G_nameInstruction_121 : decode b_G_nameInstruction 121 = .ok (.aload_n 0, 1) := by decide +kernel
theorem d_G_nameInstruction_122 : decode b_G_nameInstruction 122 = .ok (.getfield 26, 3) := by decide +kernel
theorem d_G_nameInstruction_125 : decode b_G_nameInstruction 125 = .ok (.iload_n 1, 1) := by decide +kernel
theorem d_G_nameInstruction_126 : decode b_G_nameInstruction 126 = .ok (.aaload, 1) := by decide +kernel
theorem d_G_nameInstruction_127 : decode b_G_nameInstruction 127 = .ok (.iload_n 2, 1) := by decide +kernel
theorem d_G_nameInstruction_128 : decode b_G_nameInstruction 128 = .ok (.aload_n 3, 1) := by decide +kernel
theorem d_G_nameInstruction_129 : decode b_G_nameInstruction 129 = .ok (.iload 5, 2) := by decide +kernel
theorem d_G_nameInstruction_131 : decode b_G_nameInstruction 131 = .ok (.iaload, 1) := by decide +kernel
theorem d_G_nameInstruction_132 : decode b_G_nameInstruction 132 = .ok (.iastore, 1) := by decide +kernel
theorem d_G_nameInstruction_133 : decode b_G_nameInstruction 133 = .ok (.return_, 1) := by decide +kernel
theorem d_G_newName_0 : decode b_G_newName 0 = .ok (.aload_n 0, 1) := by decide +kernel
theorem d_G_newName_1 : decode b_G_newName 1 = .ok (.getfield 67, 3) := by decide +kernel
theorem d_G_newName_4 : decode b_G_newName 4 = .ok (.istore 4, 2) := by decide +kernel
theorem d_G_newName_6 : decode b_G_newName 6 = .ok (.aload_n 0, 1) := by decide +kernel
theorem d_G_newName_7 : decode b_G_newName 7 = .ok (.getfield 38, 3) := by decide +kernel
theorem d_G_newName_10 : decode b_G_newName 10 = .ok (.iload 4, 2) := by decide +kernel
theorem d_G_newName_12 : decode b_G_newName 12 = .ok (.iload_n 1, 1) := by decide +kernel
theorem d_G_newName_13 : decode b_G_newName 13 = .ok (.iastore, 1) := by decide +kernel
theorem d_G_newName_14 : decode b_G_newName 14 = .ok (.aload_n 0, 1) := by decide +kernel
theorem d_G_newName_15 : decode b_G_newName 15 = .ok (.getfield 41, 3) := by decide +kernel
theorem d_G_newName_18 : decode b_G_newName 18 = .ok (.iload 4, 2) := by decide +kernel
theorem d_G_newName_20 : decode b_G_newName 20 = .ok (.iload_n 2, 1) := by decide +kernel
theorem d_G_newName_21 : decode b_G_newName 21 = .ok (.iastore, 1) := by decide +kernel
theorem d_G_newName_22 : decode b_G_newName 22 = .ok (.aload_n 0, 1) := by decide +kernel
theorem d_G_newName_23 : decode b_G_newName 23 = .ok (.getfield 44, 3) := by decide +kernel
theorem d_G_newName_26 : decode b_G_newName 26 = .ok (.iload 4, 2) := by decide +kernel
theorem d_G_newName_28 : decode b_G_newName 28 = .ok (.iload_n 3, 1) := by decide +kernel
theorem d_G_newName_29 : decode b_G_newName 29 = .ok (.iastore, 1) := by decide +kernel
theorem d_G_newName_30 : decode b_G_newName 30 = .ok (.aload_n 0, 1) := by decide +kernel
theorem d_G_newName_31 : decode b_G_newName 31 = .ok (.dup, 1) := by decide +kernel
theorem d_G_newName_32 : decode b_G_newName 32 = .ok (.getfield 67, 3) := by decide +kernel
theorem d_G_newName_35 : decode b_G_newName 35 = .ok (.iconst 1, 1) := by decide +kernel
theorem d_G_newName_36 : decode b_G_newName 36 = .ok (.iadd, 1) := by decide +kernel
theorem d_G_newName_37 : decode b_G_newName 37 = .ok (.putfield 67, 3) := by decide +kernel
theorem d_G_newName_40 : decode b_G_newName 40 = .ok (.iload 4, 2) := by decide +kernel
theorem d_G_newName_42 : decode b_G_newName 42 = .ok (.ireturn, 1) := by decide +kernel
theorem d_D_collect_0 : decode b_D_collect 0 = .ok (.aload_n 0, 1) := by decide +kernel
theorem d_D_collect_1 : decode b_D_collect 1 = .ok (.iconst 0, 1) := by decide +kernel
theorem d_D_collect_2 : decode b_D_collect 2 = .ok (.putfield 31, 3) := by decide +kernel
theorem d_D_collect_5 : decode b_D_collect 5 = .ok (.iconst 0, 1) := by decide +kernel
theorem d_D_collect_6 : decode b_D_collect 6 = .ok (.istore_n 1, 1) := by decide +kernel
theorem d_D_collect_7 : decode b_D_collect 7 = .ok (.iload_n 1, 1) := by decide +kernel
theorem d_D_collect_8 : decode b_D_collect 8 = .ok (.bipush 126, 2) := by decide +kernel
theorem d_D_collect_10 : decode b_D_collect 10 = .ok (.if_icmp .ge 16, 3) := by decide +kernel
theorem d_D_collect_13 : decode b_D_collect 13 = .ok (.aload_n 0, 1) := by decide +kernel
theorem d_D_collect_14 : decode b_D_collect 14 = .ok (.getfield 9, 3) := by decide +kernel
theorem d_D_collect_17 : decode b_D_collect 17 = .ok (.iload_n 1, 1) := by decide +kernel
theorem d_D_collect_18 : decode b_D_collect 18 = .ok (.iconst 0, 1) := by decide +kernel
theorem d_D_collect_19 : decode b_D_collect 19 = .ok (.bastore, 1) := by decide +kernel
theorem d_D_collect_20 : decode b_D_collect 20 = .ok (.iinc 1 1, 3) := by decide +kernel
theorem d_D_collect_23 : decode b_D_collect 23 = .ok (.goto (-16), 3) := by decide +kernel
theorem d_D_collect_26 : decode b_D_collect 26 = .ok (.iconst 0, 1) := by decide +kernel
theorem d_D_collect_27 : decode b_D_collect 27 = .ok (.istore_n 1, 1) := by decide +kernel
theorem d_D_collect_28 : decode b_D_collect 28 = .ok (.iload_n 1, 1) := by decide +kernel
theorem d_D_collect_29 : decode b_D_collect 29 = .ok (.aload_n 0, 1) := by decide +kernel
theorem d_D_collect_30 : decode b_D_collect 30 = .ok (.getfield 19, 3) := by decide +kernel
theorem d_D_collect_33 : decode b_D_collect 33 = .ok (.getfield 35, 3) := by decide +kernel
theorem d_D_collect_36 : decode b_D_collect 36 = .ok (.if_icmp .ge 28, 3) := by decide +kernel
theorem d_D_collect_39 : decode b_D_collect 39 = .ok (.aload_n 0, 1) := by decide +kernel
theorem d_D_collect_40 : decode b_D_collect 40 = .ok (.getfield 27, 3) := by decide +kernel
theorem d_D_collect_43 : decode b_D_collect 43 = .ok (.getfield 40, 3) := by decide +kernel
theorem d_D_collect_46 : decode b_D_collect 46 = .ok (.iload_n 1, 1) := by decide +kernel
theorem d_D_collect_47 : decode b_D_collect 47 = .ok (.invokestatic 45, 3) := by decide +kernel
theorem d_D_collect_50 : decode b_D_collect 50 = .ok (.ifCond .eq 8, 3) := by decide +kernel
theorem d_D_collect_53 : decode b_D_collect 53 = .ok (.aload_n 0, 1) := by decide +kernel
theorem d_D_collect_54 : decode b_D_collect 54 = .ok (.iload_n 1, 1) := by decide +kernel
theorem d_D_collect_55 : decode b_D_collect 55 = .ok (.invokevirtual 49, 3) := by decide +kernel
theorem d_D_collect_58 : decode b_D_collect 58 = .ok (.iinc 1 1, 3) := by decide +kernel
theorem d_D_collect_61 : decode b_D_collect 61 = .ok (.goto (-33), 3) := by decide +kernel
theorem d_D_collect_64 : decode b_D_collect 64 = .ok (.iconst 0, 1) := by decide +kernel
theorem d_D_collect_65 : decode b_D_collect 65 = .ok (.istore_n 1, 1) := by decide +kernel
theorem d_D_collect_66 : decode b_D_collect 66 = .ok (.iload_n 1, 1) := by decide +kernel
theorem d_D_collect_67 : decode b_D_collect 67 = .ok (.aload_n 0, 1) := by decide +kernel
theorem d_D_collect_68 : decode b_D_collect 68 = .ok (.getfield 31, 3) := by decide +kernel
theorem d_D_collect_71 : decode b_D_collect 71 = .ok (.if_icmp .ge 43, 3) := by decide +kernel
theorem d_D_collect_74 : decode b_D_collect 74 = .ok (.iload_n 1, 1) := by decide +kernel
theorem d_D_collect_75 : decode b_D_collect 75 = .ok (.bipush 126, 2) := by decide +kernel
theorem d_D_collect_77 : decode b_D_collect 77 = .ok (.if_icmp .ge 37, 3) := by decide +kernel
theorem d_D_collect_80 : decode b_D_collect 80 = .ok (.aload_n 0, 1) := by decide +kernel
theorem d_D_collect_81 : decode b_D_collect 81 = .ok (.getfield 27, 3) := by decide +kernel
theorem d_D_collect_84 : decode b_D_collect 84 = .ok (.getfield 53, 3) := by decide +kernel
theorem d_D_collect_87 : decode b_D_collect 87 = .ok (.aload_n 0, 1) := by decide +kernel
theorem d_D_collect_88 : decode b_D_collect 88 = .ok (.getfield 15, 3) := by decide +kernel
theorem d_D_collect_91 : decode b_D_collect 91 = .ok (.iload_n 1, 1) := by decide +kernel
theorem d_D_collect_92 : decode b_D_collect 92 = .ok (.iaload, 1) := by decide +kernel
theorem d_D_collect_93 : decode b_D_collect 93 = .ok (.iaload, 1) := by decide +kernel
theorem d_D_collect_94 : decode b_D_collect 94 = .ok (.iconst 1, 1) := by decide +kernel
theorem d_D_collect_95 : decode b_D_collect 95 = .ok (.if_icmp .eq 13, 3) := by decide +kernel
theorem d_D_collect_98 : decode b_D_collect 98 = .ok (.aload_n 0, 1) := by decide +kernel
theorem d_D_collect_99 : decode b_D_collect 99 = .ok (.aload_n 0, 1) := by decide +kernel
theorem d_D_collect_100 : decode b_D_collect 100 = .ok (.getfield 15, 3) := by decide +kernel
theorem d_D_collect_103 : decode b_D_collect 103 = .ok (.iload_n 1, 1) := by decide +kernel
theorem d_D_collect_104 : decode b_D_collect 104 = .ok (.iaload, 1) := by decide +kernel
theorem d_D_collect_105 : decode b_D_collect 105 = .ok (.invokevirtual 56, 3) := by decide +kernel
theorem d_D_collect_108 : decode b_D_collect 108 = .ok (.iinc 1 1, 3) := by decide +kernel
theorem d_D_collect_111 : decode b_D_collect 111 = .ok (.goto (-45), 3) := by decide +kernel
theorem d_D_collect_114 : decode b_D_collect 114 = .ok (.return_, 1) := by decide +kernel
theorem d_D_needByBlock_0 : decode b_D_needByBlock 0 = .ok (.iconst 0, 1) := by decide +kernel
theorem d_D_needByBlock_1 : decode b_D_needByBlock 1 = .ok (.istore_n 2, 1) := by decide +kernel
theorem d_D_needByBlock_2 : decode b_D_needByBlock 2 = .ok (.iload_n 2, 1) := by decide +kernel
theorem d_D_needByBlock_3 : decode b_D_needByBlock 3 = .ok (.aload_n 0, 1) := by decide +kernel
theorem d_D_needByBlock_4 : decode b_D_needByBlock 4 = .ok (.getfield 19, 3) := by decide +kernel
theorem d_D_needByBlock_7 : decode b_D_needByBlock 7 = .ok (.getfield 59, 3) := by decide +kernel
theorem d_D_needByBlock_10 : decode b_D_needByBlock 10 = .ok (.iload_n 1, 1) := by decide +kernel
theorem d_D_needByBlock_11 : decode b_D_needByBlock 11 = .ok (.iaload, 1) := by decide +kernel
theorem d_D_needByBlock_12 : decode b_D_needByBlock 12 = .ok (.if_icmp .ge 66, 3) := by decide +kernel
theorem d_D_needByBlock_15 : decode b_D_needByBlock 15 = .ok (.aload_n 0, 1) := by decide +kernel
theorem d_D_needByBlock_16 : decode b_D_needByBlock 16 = .ok (.getfield 19, 3) := by decide +kernel
theorem d_D_needByBlock_19 : decode b_D_needByBlock 19 = .ok (.getfield 62, 3) := by decide +kernel
theorem d_D_needByBlock_22 : decode b_D_needByBlock 22 = .ok (.iload_n 1, 1) := by decide +kernel
theorem d_D_needByBlock_23 : decode b_D_needByBlock 23 = .ok (.aaload, 1) := by decide +kernel
theorem d_D_needByBlock_24 : decode b_D_needByBlock 24 = .ok (.iload_n 2, 1) := by decide +kernel
theorem d_D_needByBlock_25 : decode b_D_needByBlock 25 = .ok (.iaload, 1) := by decide +kernel
theorem d_D_needByBlock_26 : decode b_D_needByBlock 26 = .ok (.istore_n 3, 1) := by decide +kernel
theorem d_D_needByBlock_27 : decode b_D_needByBlock 27 = .ok (.iload_n 3, 1) := by decide +kernel
theorem d_D_needByBlock_28 : decode b_D_needByBlock 28 = .ok (.bipush 7, 2) := by decide +kernel
theorem d_D_needByBlock_30 : decode b_D_needByBlock 30 = .ok (.if_icmp .ne 21, 3) := by decide +kernel
theorem d_D_needByBlock_33 : decode b_D_needByBlock 33 = .ok (.aload_n 0, 1) := by decide +kernel
theorem d_D_needByBlock_34 : decode b_D_needByBlock 34 = .ok (.aload_n 0, 1) := by decide +kernel
theorem d_D_needByBlock_35 : decode b_D_needByBlock 35 = .ok (.getfield 23, 3) := by decide +kernel
