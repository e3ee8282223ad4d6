theorem d_D_needByBlock_38 : decode b_D_needByBlock 38 = .ok (.getfield 66, 3) := by decide +kernel
theorem d_D_needByBlock_41 : decode b_D_needByBlock 41 = .ok (.iload_n 1, 1) := by decide +kernel
theorem d_D_needByBlock_42 : decode b_D_needByBlock 42 = .ok (.aaload, 1) := by decide +kernel
theorem d_D_needByBlock_43 : decode b_D_needByBlock 43 = .ok (.iload_n 2, 1) := by decide +kernel
theorem d_D_needByBlock_44 : decode b_D_needByBlock 44 = .ok (.iaload, 1) := by decide +kernel
theorem d_D_needByBlock_45 : decode b_D_needByBlock 45 = .ok (.invokevirtual 71, 3) := by decide +kernel
theorem d_D_needByBlock_48 : decode b_D_needByBlock 48 = .ok (.goto 24, 3) := by decide +kernel
theorem d_D_needByBlock_51 : decode b_D_needByBlock 51 = .ok (.iload_n 3, 1) := by decide +kernel
theorem d_D_needByBlock_52 : decode b_D_needByBlock 52 = .ok (.bipush 6, 2) := by decide +kernel
theorem d_D_needByBlock_54 : decode b_D_needByBlock 54 = .ok (.if_icmp .ne 18, 3) := by decide +kernel
theorem d_D_needByBlock_57 : decode b_D_needByBlock 57 = .ok (.aload_n 0, 1) := by decide +kernel
theorem d_D_needByBlock_58 : decode b_D_needByBlock 58 = .ok (.aload_n 0, 1) := by decide +kernel
theorem d_D_needByBlock_59 : decode b_D_needByBlock 59 = .ok (.getfield 23, 3) := by decide +kernel
theorem d_D_needByBlock_62 : decode b_D_needByBlock 62 = .ok (.getfield 74, 3) := by decide +kernel
theorem d_D_needByBlock_65 : decode b_D_needByBlock 65 = .ok (.iload_n 1, 1) := by decide +kernel
theorem d_D_needByBlock_66 : decode b_D_needByBlock 66 = .ok (.aaload, 1) := by decide +kernel
theorem d_D_needByBlock_67 : decode b_D_needByBlock 67 = .ok (.iload_n 2, 1) := by decide +kernel
theorem d_D_needByBlock_68 : decode b_D_needByBlock 68 = .ok (.iaload, 1) := by decide +kernel
theorem d_D_needByBlock_69 : decode b_D_needByBlock 69 = .ok (.invokevirtual 71, 3) := by decide +kernel
theorem d_D_needByBlock_72 : decode b_D_needByBlock 72 = .ok (.iinc 2 1, 3) := by decide +kernel
theorem d_D_needByBlock_75 : decode b_D_needByBlock 75 = .ok (.goto (-73), 3) := by decide +kernel
theorem d_D_needByBlock_78 : decode b_D_needByBlock 78 = .ok (.aload_n 0, 1) := by decide +kernel
theorem d_D_needByBlock_79 : decode b_D_needByBlock 79 = .ok (.getfield 23, 3) := by decide +kernel
theorem d_D_needByBlock_82 : decode b_D_needByBlock 82 = .ok (.getfield 77, 3) := by decide +kernel
theorem d_D_needByBlock_85 : decode b_D_needByBlock 85 = .ok (.iload_n 1, 1) := by decide +kernel
theorem d_D_needByBlock_86 : decode b_D_needByBlock 86 = .ok (.iaload, 1) := by decide +kernel
theorem d_D_needByBlock_87 : decode b_D_needByBlock 87 = .ok (.istore_n 2, 1) := by decide +kernel
theorem d_D_needByBlock_88 : decode b_D_needByBlock 88 = .ok (.iload_n 2, 1) := by decide +kernel
theorem d_D_needByBlock_89 : decode b_D_needByBlock 89 = .ok (.iconst (-1), 1) := by decide +kernel
theorem d_D_needByBlock_90 : decode b_D_needByBlock 90 = .ok (.if_icmp .eq 21, 3) := by decide +kernel
theorem d_D_needByBlock_93 : decode b_D_needByBlock 93 = .ok (.aload_n 0, 1) := by decide +kernel
theorem d_D_needByBlock_94 : decode b_D_needByBlock 94 = .ok (.getfield 27, 3) := by decide +kernel
theorem d_D_needByBlock_97 : decode b_D_needByBlock 97 = .ok (.getfield 53, 3) := by decide +kernel
theorem d_D_needByBlock_100 : decode b_D_needByBlock 100 = .ok (.iload_n 2, 1) := by decide +kernel
theorem d_D_needByBlock_101 : decode b_D_needByBlock 101 = .ok (.iaload, 1) := by decide +kernel
theorem d_D_needByBlock_102 : decode b_D_needByBlock 102 = .ok (.iconst 2, 1) := by decide +kernel
theorem d_D_needByBlock_103 : decode b_D_needByBlock 103 = .ok (.if_icmp .ne 8, 3) := by decide +kernel
theorem d_D_needByBlock_106 : decode b_D_needByBlock 106 = .ok (.aload_n 0, 1) := by decide +kernel
theorem d_D_needByBlock_107 : decode b_D_needByBlock 107 = .ok (.iload_n 2, 1) := by decide +kernel
theorem d_D_needByBlock_108 : decode b_D_needByBlock 108 = .ok (.invokevirtual 71, 3) := by decide +kernel
theorem d_D_needByBlock_111 : decode b_D_needByBlock 111 = .ok (.return_, 1) := by decide +kernel
theorem d_D_needPartsOf_0 : decode b_D_needPartsOf 0 = .ok (.aload_n 0, 1) := by decide +kernel
theorem d_D_needPartsOf_1 : decode b_D_needPartsOf 1 = .ok (.getfield 23, 3) := by decide +kernel
theorem d_D_needPartsOf_4 : decode b_D_needPartsOf 4 = .ok (.getfield 80, 3) := by decide +kernel
theorem d_D_needPartsOf_7 : decode b_D_needPartsOf 7 = .ok (.iload_n 1, 1) := by decide +kernel
theorem d_D_needPartsOf_8 : decode b_D_needPartsOf 8 = .ok (.iaload, 1) := by decide +kernel
theorem d_D_needPartsOf_9 : decode b_D_needPartsOf 9 = .ok (.istore_n 2, 1) := by decide +kernel
theorem d_D_needPartsOf_10 : decode b_D_needPartsOf 10 = .ok (.aload_n 0, 1) := by decide +kernel
theorem d_D_needPartsOf_11 : decode b_D_needPartsOf 11 = .ok (.getfield 23, 3) := by decide +kernel
theorem d_D_needPartsOf_14 : decode b_D_needPartsOf 14 = .ok (.getfield 83, 3) := by decide +kernel
theorem d_D_needPartsOf_17 : decode b_D_needPartsOf 17 = .ok (.iload_n 1, 1) := by decide +kernel
theorem d_D_needPartsOf_18 : decode b_D_needPartsOf 18 = .ok (.iaload, 1) := by decide +kernel
theorem d_D_needPartsOf_19 : decode b_D_needPartsOf 19 = .ok (.istore_n 3, 1) := by decide +kernel
theorem d_D_needPartsOf_20 : decode b_D_needPartsOf 20 = .ok (.iload_n 2, 1) := by decide +kernel
theorem d_D_needPartsOf_21 : decode b_D_needPartsOf 21 = .ok (.iconst (-1), 1) := by decide +kernel
theorem d_D_needPartsOf_22 : decode b_D_needPartsOf 22 = .ok (.if_icmp .ne 4, 3) := by decide +kernel
theorem d_D_needPartsOf_25 : decode b_D_needPartsOf 25 = .ok (.return_, 1) := by decide +kernel
theorem d_D_needPartsOf_26 : decode b_D_needPartsOf 26 = .ok (.iload_n 3, 1) := by decide +kernel
theorem d_D_needPartsOf_27 : decode b_D_needPartsOf 27 = .ok (.iconst (-1), 1) := by decide +kernel
theorem d_D_needPartsOf_28 : decode b_D_needPartsOf 28 = .ok (.if_icmp .ne 20, 3) := by decide +kernel
theorem d_D_needPartsOf_31 : decode b_D_needPartsOf 31 = .ok (.aload_n 0, 1) := by decide +kernel
theorem d_D_needPartsOf_32 : decode b_D_needPartsOf 32 = .ok (.iload_n 2, 1) := by decide +kernel
theorem d_D_needPartsOf_33 : decode b_D_needPartsOf 33 = .ok (.aload_n 0, 1) := by decide +kernel
theorem d_D_needPartsOf_34 : decode b_D_needPartsOf 34 = .ok (.getfield 23, 3) := by decide +kernel
theorem d_D_needPartsOf_37 : decode b_D_needPartsOf 37 = .ok (.getfield 86, 3) := by decide +kernel
theorem d_D_needPartsOf_40 : decode b_D_needPartsOf 40 = .ok (.iload_n 1, 1) := by decide +kernel
theorem d_D_needPartsOf_41 : decode b_D_needPartsOf 41 = .ok (.iaload, 1) := by decide +kernel
theorem d_D_needPartsOf_42 : decode b_D_needPartsOf 42 = .ok (.invokevirtual 89, 3) := by decide +kernel
theorem d_D_needPartsOf_45 : decode b_D_needPartsOf 45 = .ok (.goto 33, 3) := by decide +kernel
theorem d_D_needPartsOf_48 : decode b_D_needPartsOf 48 = .ok (.aload_n 0, 1) := by decide +kernel
theorem d_D_needPartsOf_49 : decode b_D_needPartsOf 49 = .ok (.aload_n 0, 1) := by decide +kernel
theorem d_D_needPartsOf_50 : decode b_D_needPartsOf 50 = .ok (.getfield 23, 3) := by decide +kernel
theorem d_D_needPartsOf_53 : decode b_D_needPartsOf 53 = .ok (.getfield 66, 3) := by decide +kernel
theorem d_D_needPartsOf_56 : decode b_D_needPartsOf 56 = .ok (.iload_n 2, 1) := by decide +kernel
theorem d_D_needPartsOf_57 : decode b_D_needPartsOf 57 = .ok (.aaload, 1) := by decide +kernel
theorem d_D_needPartsOf_58 : decode b_D_needPartsOf 58 = .ok (.iload_n 3, 1) := by decide +kernel
theorem d_D_needPartsOf_59 : decode b_D_needPartsOf 59 = .ok (.iaload, 1) := by decide +kernel
theorem d_D_needPartsOf_60 : decode b_D_needPartsOf 60 = .ok (.invokevirtual 71, 3) := by decide +kernel
theorem d_D_needPartsOf_63 : decode b_D_needPartsOf 63 = .ok (.aload_n 0, 1) := by decide +kernel
theorem d_D_needPartsOf_64 : decode b_D_needPartsOf 64 = .ok (.aload_n 0, 1) := by decide +kernel
theorem d_D_needPartsOf_65 : decode b_D_needPartsOf 65 = .ok (.getfield 23, 3) := by decide +kernel
theorem d_D_needPartsOf_68 : decode b_D_needPartsOf 68 = .ok (.getfield 93, 3) := by decide +kernel
theorem d_D_needPartsOf_71 : decode b_D_needPartsOf 71 = .ok (.iload_n 2, 1) := by decide +kernel
theorem d_D_needPartsOf_72 : decode b_D_needPartsOf 72 = .ok (.aaload, 1) := by decide +kernel
theorem d_D_needPartsOf_73 : decode b_D_needPartsOf 73 = .ok (.iload_n 3, 1) := by decide +kernel
theorem d_D_needPartsOf_74 : decode b_D_needPartsOf 74 = .ok (.iaload, 1) := by decide +kernel
theorem d_D_needPartsOf_75 : decode b_D_needPartsOf 75 = .ok (.invokevirtual 71, 3) := by decide +kernel
theorem d_D_needPartsOf_78 : decode b_D_needPartsOf 78 = .ok (.return_, 1) := by decide +kernel
theorem d_D_needPartsOfPhi_0 : decode b_D_needPartsOfPhi 0 = .ok (.iconst 0, 1) := by decide +kernel
theorem d_D_needPartsOfPhi_1 : decode b_D_needPartsOfPhi 1 = .ok (.istore_n 3, 1) := by decide +kernel
theorem d_D_needPartsOfPhi_2 : decode b_D_needPartsOfPhi 2 = .ok (.iload_n 3, 1) := by decide +kernel
theorem d_D_needPartsOfPhi_3 : decode b_D_needPartsOfPhi 3 = .ok (.aload_n 0, 1) := by decide +kernel
theorem d_D_needPartsOfPhi_4 : decode b_D_needPartsOfPhi 4 = .ok (.getfield 19, 3) := by decide +kernel
theorem d_D_needPartsOfPhi_7 : decode b_D_needPartsOfPhi 7 = .ok (.getfield 35, 3) := by decide +kernel
theorem d_D_needPartsOfPhi_10 : decode b_D_needPartsOfPhi 10 = .ok (.if_icmp .ge 36, 3) := by decide +kernel
theorem d_D_needPartsOfPhi_13 : decode b_D_needPartsOfPhi 13 = .ok (.aload_n 0, 1) := by decide +kernel
theorem d_D_needPartsOfPhi_14 : decode b_D_needPartsOfPhi 14 = .ok (.getfield 27, 3) := by decide +kernel
theorem d_D_needPartsOfPhi_17 : decode b_D_needPartsOfPhi 17 = .ok (.iload_n 3, 1) := by decide +kernel
theorem d_D_needPartsOfPhi_18 : decode b_D_needPartsOfPhi 18 = .ok (.iload_n 1, 1) := by decide +kernel
theorem d_D_needPartsOfPhi_19 : decode b_D_needPartsOfPhi 19 = .ok (.invokevirtual 96, 3) := by decide +kernel
theorem d_D_needPartsOfPhi_22 : decode b_D_needPartsOfPhi 22 = .ok (.ifCond .eq 18, 3) := by decide +kernel
theorem d_D_needPartsOfPhi_25 : decode b_D_needPartsOfPhi 25 = .ok (.aload_n 0, 1) := by decide +kernel
theorem d_D_needPartsOfPhi_26 : decode b_D_needPartsOfPhi 26 = .ok (.aload_n 0, 1) := by decide +kernel
theorem d_D_needPartsOfPhi_27 : decode b_D_needPartsOfPhi 27 = .ok (.getfield 23, 3) := by decide +kernel
theorem d_D_needPartsOfPhi_30 : decode b_D_needPartsOfPhi 30 = .ok (.getfield 99, 3) := by decide +kernel
theorem d_D_needPartsOfPhi_33 : decode b_D_needPartsOfPhi 33 = .ok (.iload_n 3, 1) := by decide +kernel
theorem d_D_needPartsOfPhi_34 : decode b_D_needPartsOfPhi 34 = .ok (.aaload, 1) := by decide +kernel
theorem d_D_needPartsOfPhi_35 : decode b_D_needPartsOfPhi 35 = .ok (.iload_n 2, 1) := by decide +kernel
theorem d_D_needPartsOfPhi_36 : decode b_D_needPartsOfPhi 36 = .ok (.iaload, 1) := by decide +kernel
theorem d_D_needPartsOfPhi_37 : decode b_D_needPartsOfPhi 37 = .ok (.invokevirtual 71, 3) := by decide +kernel
theorem d_D_needPartsOfPhi_40 : decode b_D_needPartsOfPhi 40 = .ok (.iinc 3 1, 3) := by decide +kernel
theorem d_D_needPartsOfPhi_43 : decode b_D_needPartsOfPhi 43 = .ok (.goto (-41), 3) := by decide +kernel
theorem d_D_needPartsOfPhi_46 : decode b_D_needPartsOfPhi 46 = .ok (.return_, 1) := by decide +kernel
theorem d_D_need_0 : decode b_D_need 0 = .ok (.iload_n 1, 1) := by decide +kernel
theorem d_D_need_1 : decode b_D_need 1 = .ok (.iconst (-1), 1) := by decide +kernel
theorem d_D_need_2 : decode b_D_need 2 = .ok (.if_icmp .eq 39, 3) := by decide +kernel
theorem d_D_need_5 : decode b_D_need 5 = .ok (.aload_n 0, 1) := by decide +kernel
theorem d_D_need_6 : decode b_D_need 6 = .ok (.getfield 9, 3) := by decide +kernel
theorem d_D_need_9 : decode b_D_need 9 = .ok (.iload_n 1, 1) := by decide +kernel
theorem d_D_need_10 : decode b_D_need 10 = .ok (.baload, 1) := by decide +kernel
theorem d_D_need_11 : decode b_D_need 11 = .ok (.ifCond .ne 30, 3) := by decide +kernel
theorem d_D_need_14 : decode b_D_need 14 = .ok (.aload_n 0, 1) := by decide +kernel
theorem d_D_need_15 : decode b_D_need 15 = .ok (.getfield 9, 3) := by decide +kernel
theorem d_D_need_18 : decode b_D_need 18 = .ok (.iload_n 1, 1) := by decide +kernel
theorem d_D_need_19 : decode b_D_need 19 = .ok (.iconst 1, 1) := by decide +kernel
theorem d_D_need_20 : decode b_D_need 20 = .ok (.bastore, 1) := by decide +kernel
theorem d_D_need_21 : decode b_D_need 21 = .ok (.aload_n 0, 1) := by decide +kernel
theorem d_D_need_22 : decode b_D_need 22 = .ok (.getfield 15, 3) := by decide +kernel
theorem d_D_need_25 : decode b_D_need 25 = .ok (.aload_n 0, 1) := by decide +kernel
theorem d_D_need_26 : decode b_D_need 26 = .ok (.getfield 31, 3) := by decide +kernel
theorem d_D_need_29 : decode b_D_need 29 = .ok (.iload_n 1, 1) := by decide +kernel
theorem d_D_need_30 : decode b_D_need 30 = .ok (.iastore, 1) := by decide +kernel
theorem d_D_need_31 : decode b_D_need 31 = .ok (.aload_n 0, 1) := by decide +kernel
theorem d_D_need_32 : decode b_D_need 32 = .ok (.dup, 1) := by decide +kernel
theorem d_D_need_33 : decode b_D_need 33 = .ok (.getfield 31, 3) := by decide +kernel
theorem d_D_need_36 : decode b_D_need 36 = .ok (.iconst 1, 1) := by decide +kernel
theorem d_D_need_37 : decode b_D_need 37 = .ok (.iadd, 1) := by decide +kernel
theorem d_D_need_38 : decode b_D_need 38 = .ok (.putfield 31, 3) := by decide +kernel
theorem d_D_need_41 : decode b_D_need 41 = .ok (.return_, 1) := by decide +kernel
theorem d_P_has_0 : decode b_P_has 0 = .ok (.iload_n 1, 1) := by decide +kernel
theorem d_P_has_1 : decode b_P_has 1 = .ok (.ifCond .lt 15, 3) := by decide +kernel
theorem d_P_has_4 : decode b_P_has 4 = .ok (.iload_n 1, 1) := by decide +kernel
theorem d_P_has_5 : decode b_P_has 5 = .ok (.aload_n 0, 1) := by decide +kernel
theorem d_P_has_6 : decode b_P_has 6 = .ok (.getfield 41, 3) := by decide +kernel
theorem d_P_has_9 : decode b_P_has 9 = .ok (.if_icmp .ge 7, 3) := by decide +kernel
theorem d_P_has_12 : decode b_P_has 12 = .ok (.iconst 1, 1) := by decide +kernel
theorem d_P_has_13 : decode b_P_has 13 = .ok (.goto 4, 3) := by decide +kernel
theorem d_P_has_16 : decode b_P_has 16 = .ok (.iconst 0, 1) := by decide +kernel
theorem d_P_has_17 : decode b_P_has 17 = .ok (.ireturn, 1) := by decide +kernel
theorem d_P_isTarget_0 : decode b_P_isTarget 0 = .ok (.iload_n 1, 1) := by decide +kernel
theorem d_P_isTarget_1 : decode b_P_isTarget 1 = .ok (.ifCond .eq 15, 3) := by decide +kernel
theorem d_P_isTarget_4 : decode b_P_isTarget 4 = .ok (.aload_n 0, 1) := by decide +kernel
theorem d_P_isTarget_5 : decode b_P_isTarget 5 = .ok (.iload_n 1, 1) := by decide +kernel
theorem d_P_isTarget_6 : decode b_P_isTarget 6 = .ok (.invokevirtual 45, 3) := by decide +kernel
theorem d_P_isTarget_9 : decode b_P_isTarget 9 = .ok (.ifCond .eq 7, 3) := by decide +kernel
theorem d_P_isTarget_12 : decode b_P_isTarget 12 = .ok (.iconst 1, 1) := by decide +kernel
theorem d_P_isTarget_13 : decode b_P_isTarget 13 = .ok (.goto 4, 3) := by decide +kernel
theorem d_P_isTarget_16 : decode b_P_isTarget 16 = .ok (.iconst 0, 1) := by decide +kernel
theorem d_P_isTarget_17 : decode b_P_isTarget 17 = .ok (.ireturn, 1) := by decide +kernel
theorem d_P_addBlock_0 : decode b_P_addBlock 0 = .ok (.aload_n 0, 1) := by decide +kernel
theorem d_P_addBlock_1 : decode b_P_addBlock 1 = .ok (.getfield 41, 3) := by decide +kernel
theorem d_P_addBlock_4 : decode b_P_addBlock 4 = .ok (.istore_n 1, 1) := by decide +kernel
theorem d_P_addBlock_5 : decode b_P_addBlock 5 = .ok (.aload_n 0, 1) := by decide +kernel
theorem d_P_addBlock_6 : decode b_P_addBlock 6 = .ok (.getfield 9, 3) := by decide +kernel
theorem d_P_addBlock_9 : decode b_P_addBlock 9 = .ok (.iload_n 1, 1) := by decide +kernel
theorem d_P_addBlock_10 : decode b_P_addBlock 10 = .ok (.iconst 0, 1) := by decide +kernel
theorem d_P_addBlock_11 : decode b_P_addBlock 11 = .ok (.iastore, 1) := by decide +kernel
theorem d_P_addBlock_12 : decode b_P_addBlock 12 = .ok (.aload_n 0, 1) := by decide +kernel
theorem d_P_addBlock_13 : decode b_P_addBlock 13 = .ok (.iload_n 1, 1) := by decide +kernel
theorem d_P_addBlock_14 : decode b_P_addBlock 14 = .ok (.iconst 0, 1) := by decide +kernel
theorem d_P_addBlock_15 : decode b_P_addBlock 15 = .ok (.iconst 0, 1) := by decide +kernel
theorem d_P_addBlock_16 : decode b_P_addBlock 16 = .ok (.iconst 0, 1) := by decide +kernel
theorem d_P_addBlock_17 : decode b_P_addBlock 17 = .ok (.iconst 0, 1) := by decide +kernel
theorem d_P_addBlock_18 : decode b_P_addBlock 18 = .ok (.invokevirtual 49, 3) := by decide +kernel
theorem d_P_addBlock_21 : decode b_P_addBlock 21 = .ok (.aload_n 0, 1) := by decide +kernel
theorem d_P_addBlock_22 : decode b_P_addBlock 22 = .ok (.dup, 1) := by decide +kernel
theorem d_P_addBlock_23 : decode b_P_addBlock 23 = .ok (.getfield 41, 3) := by decide +kernel
theorem d_P_addBlock_26 : decode b_P_addBlock 26 = .ok (.iconst 1, 1) := by decide +kernel
theorem d_P_addBlock_27 : decode b_P_addBlock 27 = .ok (.iadd, 1) := by decide +kernel
theorem d_P_addBlock_28 : decode b_P_addBlock 28 = .ok (.putfield 41, 3) := by decide +kernel
theorem d_P_addBlock_31 : decode b_P_addBlock 31 = .ok (.iload_n 1, 1) := by decide +kernel
theorem d_P_addBlock_32 : decode b_P_addBlock 32 = .ok (.ireturn, 1) := by decide +kernel
theorem d_P_append_0 : decode b_P_append 0 = .ok (.aload_n 0, 1) := by decide +kernel
theorem d_P_append_1 : decode b_P_append 1 = .ok (.getfield 9, 3) := by decide +kernel
theorem d_P_append_4 : decode b_P_append 4 = .ok (.iload_n 1, 1) := by decide +kernel
theorem d_P_append_5 : decode b_P_append 5 = .ok (.iaload, 1) := by decide +kernel
theorem d_P_append_6 : decode b_P_append 6 = .ok (.istore 6, 2) := by decide +kernel
theorem d_P_append_8 : decode b_P_append 8 = .ok (.aload_n 0, 1) := by decide +kernel
theorem d_P_append_9 : decode b_P_append 9 = .ok (.getfield 17, 3) := by decide +kernel
theorem d_P_append_12 : decode b_P_append 12 = .ok (.iload_n 1, 1) := by decide +kernel
theorem d_P_append_13 : decode b_P_append 13 = .ok (.aaload, 1) := by decide +kernel
theorem d_P_append_14 : decode b_P_append 14 = .ok (.iload 6, 2) := by decide +kernel
theorem d_P_append_16 : decode b_P_append 16 = .ok (.iload_n 2, 1) := by decide +kernel
theorem d_P_append_17 : decode b_P_append 17 = .ok (.iastore, 1) := by decide +kernel
theorem d_P_append_18 : decode b_P_append 18 = .ok (.aload_n 0, 1) := by decide +kernel
theorem d_P_append_19 : decode b_P_append 19 = .ok (.getfield 20, 3) := by decide +kernel
theorem d_P_append_22 : decode b_P_append 22 = .ok (.iload_n 1, 1) := by decide +kernel
theorem d_P_append_23 : decode b_P_append 23 = .ok (.aaload, 1) := by decide +kernel
theorem d_P_append_24 : decode b_P_append 24 = .ok (.iload 6, 2) := by decide +kernel
theorem d_P_append_26 : decode b_P_append 26 = .ok (.iload_n 3, 1) := by decide +kernel
theorem d_P_append_27 : decode b_P_append 27 = .ok (.iastore, 1) := by decide +kernel
theorem d_P_append_28 : decode b_P_append 28 = .ok (.aload_n 0, 1) := by decide +kernel
theorem d_P_append_29 : decode b_P_append 29 = .ok (.getfield 23, 3) := by decide +kernel
theorem d_P_append_32 : decode b_P_append 32 = .ok (.iload_n 1, 1) := by decide +kernel
theorem d_P_append_33 : decode b_P_append 33 = .ok (.aaload, 1) := by decide +kernel
theorem d_P_append_34 : decode b_P_append 34 = .ok (.iload 6, 2) := by decide +kernel
theorem d_P_append_36 : decode b_P_append 36 = .ok (.iload 4, 2) := by decide +kernel
theorem d_P_append_38 : decode b_P_append 38 = .ok (.iastore, 1) := by decide +kernel
theorem d_P_append_39 : decode b_P_append 39 = .ok (.aload_n 0, 1) := by decide +kernel
theorem d_P_append_40 : decode b_P_append 40 = .ok (.getfield 26, 3) := by decide +kernel
theorem d_P_append_43 : decode b_P_append 43 = .ok (.iload_n 1, 1) := by decide +kernel
theorem d_P_append_44 : decode b_P_append 44 = .ok (.aaload, 1) := by decide +kernel
theorem d_P_append_45 : decode b_P_append 45 = .ok (.iload 6, 2) := by decide +kernel
theorem d_P_append_47 : decode b_P_append 47 = .ok (.iload 5, 2) := by decide +kernel
theorem d_P_append_49 : decode b_P_append 49 = .ok (.iastore, 1) := by decide +kernel
theorem d_P_append_50 : decode b_P_append 50 = .ok (.aload_n 0, 1) := by decide +kernel
theorem d_P_append_51 : decode b_P_append 51 = .ok (.getfield 9, 3) := by decide +kernel
theorem d_P_append_54 : decode b_P_append 54 = .ok (.iload_n 1, 1) := by decide +kernel
theorem d_P_append_55 : decode b_P_append 55 = .ok (.iload 6, 2) := by decide +kernel
theorem d_P_append_57 : decode b_P_append 57 = .ok (.iconst 1, 1) := by decide +kernel
theorem d_P_append_58 : decode b_P_append 58 = .ok (.iadd, 1) := by decide +kernel
theorem d_P_append_59 : decode b_P_append 59 = .ok (.iastore, 1) := by decide +kernel
theorem d_P_append_60 : decode b_P_append 60 = .ok (.aload_n 0, 1) := by decide +kernel
theorem d_P_append_61 : decode b_P_append 61 = .ok (.getfield 9, 3) := by decide +kernel
theorem d_P_append_64 : decode b_P_append 64 = .ok (.iload_n 1, 1) := by decide +kernel
theorem d_P_append_65 : decode b_P_append 65 = .ok (.iaload, 1) := by decide +kernel
theorem d_P_append_66 : decode b_P_append 66 = .ok (.ireturn, 1) := by decide +kernel
theorem d_P_setEnd_0 : decode b_P_setEnd 0 = .ok (.aload_n 0, 1) := by decide +kernel
theorem d_P_setEnd_1 : decode b_P_setEnd 1 = .ok (.getfield 29, 3) := by decide +kernel
theorem d_P_setEnd_4 : decode b_P_setEnd 4 = .ok (.iload_n 1, 1) := by decide +kernel
theorem d_P_setEnd_5 : decode b_P_setEnd 5 = .ok (.iload_n 2, 1) := by decide +kernel
theorem d_P_setEnd_6 : decode b_P_setEnd 6 = .ok (.iastore, 1) := by decide +kernel
theorem d_P_setEnd_7 : decode b_P_setEnd 7 = .ok (.aload_n 0, 1) := by decide +kernel
theorem d_P_setEnd_8 : decode b_P_setEnd 8 = .ok (.getfield 32, 3) := by decide +kernel
theorem d_P_setEnd_11 : decode b_P_setEnd 11 = .ok (.iload_n 1, 1) := by decide +kernel
theorem d_P_setEnd_12 : decode b_P_setEnd 12 = .ok (.iload_n 3, 1) := by decide +kernel
theorem d_P_setEnd_13 : decode b_P_setEnd 13 = .ok (.iastore, 1) := by decide +kernel
theorem d_P_setEnd_14 : decode b_P_setEnd 14 = .ok (.aload_n 0, 1) := by decide +kernel
theorem d_P_setEnd_15 : decode b_P_setEnd 15 = .ok (.getfield 35, 3) := by decide +kernel
theorem d_P_setEnd_18 : decode b_P_setEnd 18 = .ok (.iload_n 1, 1) := by decide +kernel
theorem d_P_setEnd_19 : decode b_P_setEnd 19 = .ok (.iload 4, 2) := by decide +kernel
theorem d_P_setEnd_21 : decode b_P_setEnd 21 = .ok (.iastore, 1) := by decide +kernel
theorem d_P_setEnd_22 : decode b_P_setEnd 22 = .ok (.aload_n 0, 1) := by decide +kernel
theorem d_P_setEnd_23 : decode b_P_setEnd 23 = .ok (.getfield 38, 3) := by decide +kernel
theorem d_P_setEnd_26 : decode b_P_setEnd 26 = .ok (.iload_n 1, 1) := by decide +kernel
theorem d_P_setEnd_27 : decode b_P_setEnd 27 = .ok (.iload 5, 2) := by decide +kernel
theorem d_P_setEnd_29 : decode b_P_setEnd 29 = .ok (.iastore, 1) := by decide +kernel
theorem d_P_setEnd_30 : decode b_P_setEnd 30 = .ok (.return_, 1) := by decide +kernel
theorem d_P_ways_0 : decode b_P_ways 0 = .ok (.aload_n 0, 1) := by decide +kernel
theorem d_P_ways_1 : decode b_P_ways 1 = .ok (.getfield 29, 3) := by decide +kernel
theorem d_P_ways_4 : decode b_P_ways 4 = .ok (.iload_n 1, 1) := by decide +kernel
theorem d_P_ways_5 : decode b_P_ways 5 = .ok (.iaload, 1) := by decide +kernel
theorem d_P_ways_6 : decode b_P_ways 6 = .ok (.ifCond .ne 7, 3) := by decide +kernel
theorem d_P_ways_9 : decode b_P_ways 9 = .ok (.iconst 0, 1) := by decide +kernel
theorem d_P_ways_10 : decode b_P_ways 10 = .ok (.goto 22, 3) := by decide +kernel
theorem d_P_ways_13 : decode b_P_ways 13 = .ok (.aload_n 0, 1) := by decide +kernel
theorem d_P_ways_14 : decode b_P_ways 14 = .ok (.getfield 35, 3) := by decide +kernel
theorem d_P_ways_17 : decode b_P_ways 17 = .ok (.iload_n 1, 1) := by decide +kernel
theorem d_P_ways_18 : decode b_P_ways 18 = .ok (.iaload, 1) := by decide +kernel
theorem d_P_ways_19 : decode b_P_ways 19 = .ok (.invokestatic 53, 3) := by decide +kernel
theorem d_P_ways_22 : decode b_P_ways 22 = .ok (.aload_n 0, 1) := by decide +kernel
theorem d_P_ways_23 : decode b_P_ways 23 = .ok (.getfield 38, 3) := by decide +kernel
theorem d_P_ways_26 : decode b_P_ways 26 = .ok (.iload_n 1, 1) := by decide +kernel
theorem d_P_ways_27 : decode b_P_ways 27 = .ok (.iaload, 1) := by decide +kernel
theorem d_P_ways_28 : decode b_P_ways 28 = .ok (.invokestatic 53, 3) := by decide +kernel
theorem d_P_ways_31 : decode b_P_ways 31 = .ok (.ior, 1) := by decide +kernel
theorem d_P_ways_32 : decode b_P_ways 32 = .ok (.ireturn, 1) := by decide +kernel
theorem d_S_survey_0 : decode b_S_survey 0 = .ok (.aload_n 0, 1) := by decide +kernel
theorem d_S_survey_1 : decode b_S_survey 1 = .ok (.aload_n 0, 1) := by decide +kernel
theorem d_S_survey_2 : decode b_S_survey 2 = .ok (.iconst 0, 1) := by decide +kernel
theorem d_S_survey_3 : decode b_S_survey 3 = .ok (.invokevirtual 34, 3) := by decide +kernel
theorem d_S_survey_6 : decode b_S_survey 6 = .ok (.putfield 38, 3) := by decide +kernel
theorem d_S_survey_9 : decode b_S_survey 9 = .ok (.iconst 0, 1) := by decide +kernel
theorem d_S_survey_10 : decode b_S_survey 10 = .ok (.istore_n 1, 1) := by decide +kernel
theorem d_S_survey_11 : decode b_S_survey 11 = .ok (.iload_n 1, 1) := by decide +kernel
theorem d_S_survey_12 : decode b_S_survey 12 = .ok (.aload_n 0, 1) := by decide +kernel
theorem d_S_survey_13 : decode b_S_survey 13 = .ok (.getfield 30, 3) := by decide +kernel
theorem d_S_survey_16 : decode b_S_survey 16 = .ok (.getfield 42, 3) := by decide +kernel
theorem d_S_survey_19 : decode b_S_survey 19 = .ok (.if_icmp .ge 56, 3) := by decide +kernel
theorem d_S_survey_22 : decode b_S_survey 22 = .ok (.aload_n 0, 1) := by decide +kernel
theorem d_S_survey_23 : decode b_S_survey 23 = .ok (.getfield 9, 3) := by decide +kernel
theorem d_S_survey_26 : decode b_S_survey 26 = .ok (.iload_n 1, 1) := by decide +kernel
theorem d_S_survey_27 : decode b_S_survey 27 = .ok (.aload_n 0, 1) := by decide +kernel
theorem d_S_survey_28 : decode b_S_survey 28 = .ok (.iload_n 1, 1) := by decide +kernel
theorem d_S_survey_29 : decode b_S_survey 29 = .ok (.invokevirtual 47, 3) := by decide +kernel
theorem d_S_survey_32 : decode b_S_survey 32 = .ok (.iastore, 1) := by decide +kernel
theorem d_S_survey_33 : decode b_S_survey 33 = .ok (.aload_n 0, 1) := by decide +kernel
theorem d_S_survey_34 : decode b_S_survey 34 = .ok (.getfield 15, 3) := by decide +kernel
theorem d_S_survey_37 : decode b_S_survey 37 = .ok (.iload_n 1, 1) := by decide +kernel
theorem d_S_survey_38 : decode b_S_survey 38 = .ok (.aload_n 0, 1) := by decide +kernel
theorem d_S_survey_39 : decode b_S_survey 39 = .ok (.getfield 38, 3) := by decide +kernel
theorem d_S_survey_42 : decode b_S_survey 42 = .ok (.iload_n 1, 1) := by decide +kernel
theorem d_S_survey_43 : decode b_S_survey 43 = .ok (.invokestatic 50, 3) := by decide +kernel
theorem d_S_survey_46 : decode b_S_survey 46 = .ok (.ifCond .eq 21, 3) := by decide +kernel
theorem d_S_survey_49 : decode b_S_survey 49 = .ok (.aload_n 0, 1) := by decide +kernel
theorem d_S_survey_50 : decode b_S_survey 50 = .ok (.getfield 38, 3) := by decide +kernel
theorem d_S_survey_53 : decode b_S_survey 53 = .ok (.aload_n 0, 1) := by decide +kernel
theorem d_S_survey_54 : decode b_S_survey 54 = .ok (.iload_n 1, 1) := by decide +kernel
theorem d_S_survey_55 : decode b_S_survey 55 = .ok (.invokestatic 54, 3) := by decide +kernel
theorem d_S_survey_58 : decode b_S_survey 58 = .ok (.invokevirtual 34, 3) := by decide +kernel
theorem d_S_survey_61 : decode b_S_survey 61 = .ok (.iconst (-1), 1) := by decide +kernel
theorem d_S_survey_62 : decode b_S_survey 62 = .ok (.ixor, 1) := by decide +kernel
theorem d_S_survey_63 : decode b_S_survey 63 = .ok (.iand, 1) := by decide +kernel
theorem d_S_survey_64 : decode b_S_survey 64 = .ok (.goto 4, 3) := by decide +kernel
theorem d_S_survey_67 : decode b_S_survey 67 = .ok (.iconst 0, 1) := by decide +kernel
theorem d_S_survey_68 : decode b_S_survey 68 = .ok (.iastore, 1) := by decide +kernel
theorem d_S_survey_69 : decode b_S_survey 69 = .ok (.iinc 1 1, 3) := by decide +kernel
theorem d_S_survey_72 : decode b_S_survey 72 = .ok (.goto (-61), 3) := by decide +kernel
theorem d_S_survey_75 : decode b_S_survey 75 = .ok (.iconst 0, 1) := by decide +kernel
theorem d_S_survey_76 : decode b_S_survey 76 = .ok (.istore_n 1, 1) := by decide +kernel
theorem d_S_survey_77 : decode b_S_survey 77 = .ok (.iload_n 1, 1) := by decide +kernel
theorem d_S_survey_78 : decode b_S_survey 78 = .ok (.aload_n 0, 1) := by decide +kernel
theorem d_S_survey_79 : decode b_S_survey 79 = .ok (.getfield 30, 3) := by decide +kernel
theorem d_S_survey_82 : decode b_S_survey 82 = .ok (.getfield 42, 3) := by decide +kernel
theorem d_S_survey_85 : decode b_S_survey 85 = .ok (.if_icmp .ge 31, 3) := by decide +kernel
theorem d_S_survey_88 : decode b_S_survey 88 = .ok (.aload_n 0, 1) := by decide +kernel
theorem d_S_survey_89 : decode b_S_survey 89 = .ok (.getfield 18, 3) := by decide +kernel
theorem d_S_survey_92 : decode b_S_survey 92 = .ok (.iload_n 1, 1) := by decide +kernel
theorem d_S_survey_93 : decode b_S_survey 93 = .ok (.aload_n 0, 1) := by decide +kernel
theorem d_S_survey_94 : decode b_S_survey 94 = .ok (.iload_n 1, 1) := by decide +kernel
theorem d_S_survey_95 : decode b_S_survey 95 = .ok (.invokevirtual 57, 3) := by decide +kernel
theorem d_S_survey_98 : decode b_S_survey 98 = .ok (.iastore, 1) := by decide +kernel
theorem d_S_survey_99 : decode b_S_survey 99 = .ok (.aload_n 0, 1) := by decide +kernel
theorem d_S_survey_100 : decode b_S_survey 100 = .ok (.getfield 21, 3) := by decide +kernel
theorem d_S_survey_103 : decode b_S_survey 103 = .ok (.iload_n 1, 1) := by decide +kernel
theorem d_S_survey_104 : decode b_S_survey 104 = .ok (.aload_n 0, 1) := by decide +kernel
theorem d_S_survey_105 : decode b_S_survey 105 = .ok (.iload_n 1, 1) := by decide +kernel
theorem d_S_survey_106 : decode b_S_survey 106 = .ok (.invokevirtual 60, 3) := by decide +kernel
theorem d_S_survey_109 : decode b_S_survey 109 = .ok (.iastore, 1) := by decide +kernel
theorem d_S_survey_110 : decode b_S_survey 110 = .ok (.iinc 1 1, 3) := by decide +kernel
theorem d_S_survey_113 : decode b_S_survey 113 = .ok (.goto (-36), 3) := by decide +kernel
theorem d_S_survey_116 : decode b_S_survey 116 = .ok (.aload_n 0, 1) := by decide +kernel
theorem d_S_survey_117 : decode b_S_survey 117 = .ok (.invokevirtual 63, 3) := by decide +kernel
theorem d_S_survey_120 : decode b_S_survey 120 = .ok (.return_, 1) := by decide +kernel
theorem d_S_comeBy_0 : decode b_S_comeBy 0 = .ok (.iconst 0, 1) := by decide +kernel
theorem d_S_comeBy_1 : decode b_S_comeBy 1 = .ok (.invokestatic 54, 3) := by decide +kernel
theorem d_S_comeBy_4 : decode b_S_comeBy 4 = .ok (.iload_n 1, 1) := by decide +kernel
theorem d_S_comeBy_5 : decode b_S_comeBy 5 = .ok (.iconst (-1), 1) := by decide +kernel
theorem d_S_comeBy_6 : decode b_S_comeBy 6 = .ok (.ixor, 1) := by decide +kernel
theorem d_S_comeBy_7 : decode b_S_comeBy 7 = .ok (.iand, 1) := by decide +kernel
theorem d_S_comeBy_8 : decode b_S_comeBy 8 = .ok (.istore_n 2, 1) := by decide +kernel
theorem d_S_comeBy_9 : decode b_S_comeBy 9 = .ok (.iconst 1, 1) := by decide +kernel
theorem d_S_comeBy_10 : decode b_S_comeBy 10 = .ok (.istore_n 3, 1) := by decide +kernel
theorem d_S_comeBy_11 : decode b_S_comeBy 11 = .ok (.iload_n 3, 1) := by decide +kernel
theorem d_S_comeBy_12 : decode b_S_comeBy 12 = .ok (.aload_n 0, 1) := by decide +kernel
theorem d_S_comeBy_13 : decode b_S_comeBy 13 = .ok (.getfield 30, 3) := by decide +kernel
theorem d_S_comeBy_16 : decode b_S_comeBy 16 = .ok (.getfield 42, 3) := by decide +kernel
theorem d_S_comeBy_19 : decode b_S_comeBy 19 = .ok (.if_icmp .ge 55, 3) := by decide +kernel
theorem d_S_comeBy_22 : decode b_S_comeBy 22 = .ok (.iconst 0, 1) := by decide +kernel
theorem d_S_comeBy_23 : decode b_S_comeBy 23 = .ok (.istore 4, 2) := by decide +kernel
theorem d_S_comeBy_25 : decode b_S_comeBy 25 = .ok (.iload 4, 2) := by decide +kernel
theorem d_S_comeBy_27 : decode b_S_comeBy 27 = .ok (.aload_n 0, 1) := by decide +kernel
theorem d_S_comeBy_28 : decode b_S_comeBy 28 = .ok (.getfield 30, 3) := by decide +kernel
theorem d_S_comeBy_31 : decode b_S_comeBy 31 = .ok (.getfield 42, 3) := by decide +kernel
theorem d_S_comeBy_34 : decode b_S_comeBy 34 = .ok (.if_icmp .ge 34, 3) := by decide +kernel
theorem d_S_comeBy_37 : decode b_S_comeBy 37 = .ok (.iload_n 2, 1) := by decide +kernel
theorem d_S_comeBy_38 : decode b_S_comeBy 38 = .ok (.iload 4, 2) := by decide +kernel
theorem d_S_comeBy_40 : decode b_S_comeBy 40 = .ok (.invokestatic 50, 3) := by decide +kernel
theorem d_S_comeBy_43 : decode b_S_comeBy 43 = .ok (.ifCond .eq 19, 3) := by decide +kernel
theorem d_S_comeBy_46 : decode b_S_comeBy 46 = .ok (.iload_n 2, 1) := by decide +kernel
theorem d_S_comeBy_47 : decode b_S_comeBy 47 = .ok (.aload_n 0, 1) := by decide +kernel
theorem d_S_comeBy_48 : decode b_S_comeBy 48 = .ok (.getfield 30, 3) := by decide +kernel
theorem d_S_comeBy_51 : decode b_S_comeBy 51 = .ok (.iload 4, 2) := by decide +kernel
theorem d_S_comeBy_53 : decode b_S_comeBy 53 = .ok (.invokevirtual 66, 3) := by decide +kernel
theorem d_S_comeBy_56 : decode b_S_comeBy 56 = .ok (.iload_n 1, 1) := by decide +kernel
theorem d_S_comeBy_57 : decode b_S_comeBy 57 = .ok (.iconst (-1), 1) := by decide +kernel
theorem d_S_comeBy_58 : decode b_S_comeBy 58 = .ok (.ixor, 1) := by decide +kernel
theorem d_S_comeBy_59 : decode b_S_comeBy 59 = .ok (.iand, 1) := by decide +kernel
theorem d_S_comeBy_60 : decode b_S_comeBy 60 = .ok (.ior, 1) := by decide +kernel
theorem d_S_comeBy_61 : decode b_S_comeBy 61 = .ok (.istore_n 2, 1) := by decide +kernel
theorem d_S_comeBy_62 : decode b_S_comeBy 62 = .ok (.iinc 4 1, 3) := by decide +kernel
theorem d_S_comeBy_65 : decode b_S_comeBy 65 = .ok (.goto (-40), 3) := by decide +kernel
theorem d_S_comeBy_68 : decode b_S_comeBy 68 = .ok (.iinc 3 1, 3) := by decide +kernel
theorem d_S_comeBy_71 : decode b_S_comeBy 71 = .ok (.goto (-60), 3) := by decide +kernel
theorem d_S_comeBy_74 : decode b_S_comeBy 74 = .ok (.iload_n 2, 1) := by decide +kernel
theorem d_S_comeBy_75 : decode b_S_comeBy 75 = .ok (.ireturn, 1) := by decide +kernel
theorem d_S_findBefore_0 : decode b_S_findBefore 0 = .ok (.iconst 0, 1) := by decide +kernel
theorem d_S_findBefore_1 : decode b_S_findBefore 1 = .ok (.istore_n 2, 1) := by decide +kernel
theorem d_S_findBefore_2 : decode b_S_findBefore 2 = .ok (.iconst 0, 1) := by decide +kernel
theorem d_S_findBefore_3 : decode b_S_findBefore 3 = .ok (.istore_n 3, 1) := by decide +kernel
theorem d_S_findBefore_4 : decode b_S_findBefore 4 = .ok (.iload_n 3, 1) := by decide +kernel
theorem d_S_findBefore_5 : decode b_S_findBefore 5 = .ok (.aload_n 0, 1) := by decide +kernel
theorem d_S_findBefore_6 : decode b_S_findBefore 6 = .ok (.getfield 30, 3) := by decide +kernel
theorem d_S_findBefore_9 : decode b_S_findBefore 9 = .ok (.getfield 42, 3) := by decide +kernel
theorem d_S_findBefore_12 : decode b_S_findBefore 12 = .ok (.if_icmp .ge 42, 3) := by decide +kernel
theorem d_S_findBefore_15 : decode b_S_findBefore 15 = .ok (.aload_n 0, 1) := by decide +kernel
theorem d_S_findBefore_16 : decode b_S_findBefore 16 = .ok (.getfield 38, 3) := by decide +kernel
theorem d_S_findBefore_19 : decode b_S_findBefore 19 = .ok (.iload_n 3, 1) := by decide +kernel
theorem d_S_findBefore_20 : decode b_S_findBefore 20 = .ok (.invokestatic 50, 3) := by decide +kernel
theorem d_S_findBefore_23 : decode b_S_findBefore 23 = .ok (.ifCond .eq 25, 3) := by decide +kernel
theorem d_S_findBefore_26 : decode b_S_findBefore 26 = .ok (.aload_n 0, 1) := by decide +kernel
theorem d_S_findBefore_27 : decode b_S_findBefore 27 = .ok (.getfield 30, 3) := by decide +kernel
theorem d_S_findBefore_30 : decode b_S_findBefore 30 = .ok (.iload_n 3, 1) := by decide +kernel
theorem d_S_findBefore_31 : decode b_S_findBefore 31 = .ok (.invokevirtual 66, 3) := by decide +kernel
theorem d_S_findBefore_34 : decode b_S_findBefore 34 = .ok (.iload_n 1, 1) := by decide +kernel
theorem d_S_findBefore_35 : decode b_S_findBefore 35 = .ok (.invokestatic 50, 3) := by decide +kernel
theorem d_S_findBefore_38 : decode b_S_findBefore 38 = .ok (.ifCond .eq 10, 3) := by decide +kernel
theorem d_S_findBefore_41 : decode b_S_findBefore 41 = .ok (.iload_n 2, 1) := by decide +kernel
theorem d_S_findBefore_42 : decode b_S_findBefore 42 = .ok (.iload_n 3, 1) := by decide +kernel
theorem d_S_findBefore_43 : decode b_S_findBefore 43 = .ok (.invokestatic 54, 3) := by decide +kernel
theorem d_S_findBefore_46 : decode b_S_findBefore 46 = .ok (.ior, 1) := by decide +kernel
theorem d_S_findBefore_47 : decode b_S_findBefore 47 = .ok (.istore_n 2, 1) := by decide +kernel
theorem d_S_findBefore_48 : decode b_S_findBefore 48 = .ok (.iinc 3 1, 3) := by decide +kernel
theorem d_S_findBefore_51 : decode b_S_findBefore 51 = .ok (.goto (-47), 3) := by decide +kernel
theorem d_S_findBefore_54 : decode b_S_findBefore 54 = .ok (.iload_n 2, 1) := by decide +kernel
theorem d_S_findBefore_55 : decode b_S_findBefore 55 = .ok (.ireturn, 1) := by decide +kernel
theorem d_S_findParent_0 : decode b_S_findParent 0 = .ok (.iconst (-1), 1) := by decide +kernel
theorem d_S_findParent_1 : decode b_S_findParent 1 = .ok (.istore_n 2, 1) := by decide +kernel
theorem d_S_findParent_2 : decode b_S_findParent 2 = .ok (.iconst 0, 1) := by decide +kernel
theorem d_S_findParent_3 : decode b_S_findParent 3 = .ok (.istore_n 3, 1) := by decide +kernel
theorem d_S_findParent_4 : decode b_S_findParent 4 = .ok (.iload_n 3, 1) := by decide +kernel
theorem d_S_findParent_5 : decode b_S_findParent 5 = .ok (.aload_n 0, 1) := by decide +kernel
theorem d_S_findParent_6 : decode b_S_findParent 6 = .ok (.getfield 30, 3) := by decide +kernel
theorem d_S_findParent_9 : decode b_S_findParent 9 = .ok (.getfield 42, 3) := by decide +kernel
theorem d_S_findParent_12 : decode b_S_findParent 12 = .ok (.if_icmp .ge 47, 3) := by decide +kernel
theorem d_S_findParent_15 : decode b_S_findParent 15 = .ok (.iload_n 3, 1) := by decide +kernel
theorem d_S_findParent_16 : decode b_S_findParent 16 = .ok (.iload_n 1, 1) := by decide +kernel
theorem d_S_findParent_17 : decode b_S_findParent 17 = .ok (.if_icmp .eq 36, 3) := by decide +kernel
theorem d_S_findParent_20 : decode b_S_findParent 20 = .ok (.aload_n 0, 1) := by decide +kernel
theorem d_S_findParent_21 : decode b_S_findParent 21 = .ok (.getfield 15, 3) := by decide +kernel
theorem d_S_findParent_24 : decode b_S_findParent 24 = .ok (.iload_n 3, 1) := by decide +kernel
theorem d_S_findParent_25 : decode b_S_findParent 25 = .ok (.iaload, 1) := by decide +kernel
theorem d_S_findParent_26 : decode b_S_findParent 26 = .ok (.iload_n 1, 1) := by decide +kernel
theorem d_S_findParent_27 : decode b_S_findParent 27 = .ok (.invokestatic 50, 3) := by decide +kernel
theorem d_S_findParent_30 : decode b_S_findParent 30 = .ok (.ifCond .eq 23, 3) := by decide +kernel
theorem d_S_findParent_33 : decode b_S_findParent 33 = .ok (.iload_n 2, 1) := by decide +kernel
theorem d_S_findParent_34 : decode b_S_findParent 34 = .ok (.iconst (-1), 1) := by decide +kernel
theorem d_S_findParent_35 : decode b_S_findParent 35 = .ok (.if_icmp .eq 16, 3) := by decide +kernel
theorem d_S_findParent_38 : decode b_S_findParent 38 = .ok (.aload_n 0, 1) := by decide +kernel
theorem d_S_findParent_39 : decode b_S_findParent 39 = .ok (.getfield 15, 3) := by decide +kernel
theorem d_S_findParent_42 : decode b_S_findParent 42 = .ok (.iload_n 2, 1) := by decide +kernel
theorem d_S_findParent_43 : decode b_S_findParent 43 = .ok (.iaload, 1) := by decide +kernel
theorem d_S_findParent_44 : decode b_S_findParent 44 = .ok (.iload_n 3, 1) := by decide +kernel
theorem d_S_findParent_45 : decode b_S_findParent 45 = .ok (.invokestatic 50, 3) := by decide +kernel
theorem d_S_findParent_48 : decode b_S_findParent 48 = .ok (.ifCond .eq 5, 3) := by decide +kernel
theorem d_S_findParent_51 : decode b_S_findParent 51 = .ok (.iload_n 3, 1) := by decide +kernel
theorem d_S_findParent_52 : decode b_S_findParent 52 = .ok (.istore_n 2, 1) := by decide +kernel
theorem d_S_findParent_53 : decode b_S_findParent 53 = .ok (.iinc 3 1, 3) := by decide +kernel
theorem d_S_findParent_56 : decode b_S_findParent 56 = .ok (.goto (-52), 3) := by decide +kernel
theorem d_S_findParent_59 : decode b_S_findParent 59 = .ok (.iload_n 2, 1) := by decide +kernel
theorem d_S_findParent_60 : decode b_S_findParent 60 = .ok (.ireturn, 1) := by decide +kernel
theorem d_S_findFrontier_0 : decode b_S_findFrontier 0 = .ok (.iconst 0, 1) := by decide +kernel
theorem d_S_findFrontier_1 : decode b_S_findFrontier 1 = .ok (.istore_n 2, 1) := by decide +kernel
theorem d_S_findFrontier_2 : decode b_S_findFrontier 2 = .ok (.iconst 0, 1) := by decide +kernel
theorem d_S_findFrontier_3 : decode b_S_findFrontier 3 = .ok (.istore_n 3, 1) := by decide +kernel
theorem d_S_findFrontier_4 : decode b_S_findFrontier 4 = .ok (.iload_n 3, 1) := by decide +kernel
theorem d_S_findFrontier_5 : decode b_S_findFrontier 5 = .ok (.aload_n 0, 1) := by decide +kernel
theorem d_S_findFrontier_6 : decode b_S_findFrontier 6 = .ok (.getfield 30, 3) := by decide +kernel
theorem d_S_findFrontier_9 : decode b_S_findFrontier 9 = .ok (.getfield 42, 3) := by decide +kernel
theorem d_S_findFrontier_12 : decode b_S_findFrontier 12 = .ok (.if_icmp .ge 62, 3) := by decide +kernel
theorem d_S_findFrontier_15 : decode b_S_findFrontier 15 = .ok (.iload_n 3, 1) := by decide +kernel
theorem d_S_findFrontier_16 : decode b_S_findFrontier 16 = .ok (.iload_n 1, 1) := by decide +kernel
theorem d_S_findFrontier_17 : decode b_S_findFrontier 17 = .ok (.if_icmp .eq 16, 3) := by decide +kernel
theorem d_S_findFrontier_20 : decode b_S_findFrontier 20 = .ok (.aload_n 0, 1) := by decide +kernel
theorem d_S_findFrontier_21 : decode b_S_findFrontier 21 = .ok (.getfield 15, 3) := by decide +kernel
theorem d_S_findFrontier_24 : decode b_S_findFrontier 24 = .ok (.iload_n 1, 1) := by decide +kernel
theorem d_S_findFrontier_25 : decode b_S_findFrontier 25 = .ok (.iaload, 1) := by decide +kernel
theorem d_S_findFrontier_26 : decode b_S_findFrontier 26 = .ok (.iload_n 3, 1) := by decide +kernel
theorem d_S_findFrontier_27 : decode b_S_findFrontier 27 = .ok (.invokestatic 50, 3) := by decide +kernel
theorem d_S_findFrontier_30 : decode b_S_findFrontier 30 = .ok (.ifCond .ne 7, 3) := by decide +kernel
theorem d_S_findFrontier_33 : decode b_S_findFrontier 33 = .ok (.iconst 1, 1) := by decide +kernel
theorem d_S_findFrontier_34 : decode b_S_findFrontier 34 = .ok (.goto 4, 3) := by decide +kernel
theorem d_S_findFrontier_37 : decode b_S_findFrontier 37 = .ok (.iconst 0, 1) := by decide +kernel
theorem d_S_findFrontier_38 : decode b_S_findFrontier 38 = .ok (.istore 4, 2) := by decide +kernel
theorem d_S_findFrontier_40 : decode b_S_findFrontier 40 = .ok (.iload 4, 2) := by decide +kernel
theorem d_S_findFrontier_42 : decode b_S_findFrontier 42 = .ok (.ifCond .eq 26, 3) := by decide +kernel
theorem d_S_findFrontier_45 : decode b_S_findFrontier 45 = .ok (.aload_n 0, 1) := by decide +kernel
theorem d_S_findFrontier_46 : decode b_S_findFrontier 46 = .ok (.getfield 9, 3) := by decide +kernel
theorem d_S_findFrontier_49 : decode b_S_findFrontier 49 = .ok (.iload_n 3, 1) := by decide +kernel
theorem d_S_findFrontier_50 : decode b_S_findFrontier 50 = .ok (.iaload, 1) := by decide +kernel
theorem d_S_findFrontier_51 : decode b_S_findFrontier 51 = .ok (.aload_n 0, 1) := by decide +kernel
theorem d_S_findFrontier_52 : decode b_S_findFrontier 52 = .ok (.getfield 15, 3) := by decide +kernel
theorem d_S_findFrontier_55 : decode b_S_findFrontier 55 = .ok (.iload_n 1, 1) := by decide +kernel
theorem d_S_findFrontier_56 : decode b_S_findFrontier 56 = .ok (.iaload, 1) := by decide +kernel
theorem d_S_findFrontier_57 : decode b_S_findFrontier 57 = .ok (.iand, 1) := by decide +kernel
theorem d_S_findFrontier_58 : decode b_S_findFrontier 58 = .ok (.ifCond .eq 10, 3) := by decide +kernel
theorem d_S_findFrontier_61 : decode b_S_findFrontier 61 = .ok (.iload_n 2, 1) := by decide +kernel
theorem d_S_findFrontier_62 : decode b_S_findFrontier 62 = .ok (.iload_n 3, 1) := by decide +kernel
theorem d_S_findFrontier_63 : decode b_S_findFrontier 63 = .ok (.invokestatic 54, 3) := by decide +kernel
theorem d_S_findFrontier_66 : decode b_S_findFrontier 66 = .ok (.ior, 1) := by decide +kernel
theorem d_S_findFrontier_67 : decode b_S_findFrontier 67 = .ok (.istore_n 2, 1) := by decide +kernel
theorem d_S_findFrontier_68 : decode b_S_findFrontier 68 = .ok (.iinc 3 1, 3) := by decide +kernel
theorem d_S_findFrontier_71 : decode b_S_findFrontier 71 = .ok (.goto (-67), 3) := by decide +kernel
theorem d_S_findFrontier_74 : decode b_S_findFrontier 74 = .ok (.iload_n 2, 1) := by decide +kernel
theorem d_S_findFrontier_75 : decode b_S_findFrontier 75 = .ok (.ireturn, 1) := by decide +kernel
theorem d_S_putInOrder_0 : decode b_S_putInOrder 0 = .ok (.aload_n 0, 1) := by decide +kernel
theorem d_S_putInOrder_1 : decode b_S_putInOrder 1 = .ok (.iconst 0, 1) := by decide +kernel
theorem d_S_putInOrder_2 : decode b_S_putInOrder 2 = .ok (.putfield 69, 3) := by decide +kernel
theorem d_S_putInOrder_5 : decode b_S_putInOrder 5 = .ok (.aload_n 0, 1) := by decide +kernel
theorem d_S_putInOrder_6 : decode b_S_putInOrder 6 = .ok (.getfield 27, 3) := by decide +kernel
theorem d_S_putInOrder_9 : decode b_S_putInOrder 9 = .ok (.iconst 0, 1) := by decide +kernel
theorem d_S_putInOrder_10 : decode b_S_putInOrder 10 = .ok (.iconst 0, 1) := by decide +kernel
theorem d_S_putInOrder_11 : decode b_S_putInOrder 11 = .ok (.iastore, 1) := by decide +kernel
theorem d_S_putInOrder_12 : decode b_S_putInOrder 12 = .ok (.iconst 1, 1) := by decide +kernel
theorem d_S_putInOrder_13 : decode b_S_putInOrder 13 = .ok (.istore_n 1, 1) := by decide +kernel
theorem d_S_putInOrder_14 : decode b_S_putInOrder 14 = .ok (.iconst 0, 1) := by decide +kernel
theorem d_S_putInOrder_15 : decode b_S_putInOrder 15 = .ok (.istore_n 2, 1) := by decide +kernel
theorem d_S_putInOrder_16 : decode b_S_putInOrder 16 = .ok (.iload_n 2, 1) := by decide +kernel
theorem d_S_putInOrder_17 : decode b_S_putInOrder 17 = .ok (.aload_n 0, 1) := by decide +kernel
theorem d_S_putInOrder_18 : decode b_S_putInOrder 18 = .ok (.getfield 30, 3) := by decide +kernel
theorem d_S_putInOrder_21 : decode b_S_putInOrder 21 = .ok (.getfield 42, 3) := by decide +kernel
theorem d_S_putInOrder_24 : decode b_S_putInOrder 24 = .ok (.if_icmp .ge 87, 3) := by decide +kernel
theorem d_S_putInOrder_27 : decode b_S_putInOrder 27 = .ok (.iload_n 1, 1) := by decide +kernel
theorem d_S_putInOrder_28 : decode b_S_putInOrder 28 = .ok (.ifCond .le 83, 3) := by decide +kernel
theorem d_S_putInOrder_31 : decode b_S_putInOrder 31 = .ok (.iinc 1 (-1), 3) := by decide +kernel
theorem d_S_putInOrder_34 : decode b_S_putInOrder 34 = .ok (.aload_n 0, 1) := by decide +kernel
theorem d_S_putInOrder_35 : decode b_S_putInOrder 35 = .ok (.getfield 27, 3) := by decide +kernel
theorem d_S_putInOrder_38 : decode b_S_putInOrder 38 = .ok (.iload_n 1, 1) := by decide +kernel
theorem d_S_putInOrder_39 : decode b_S_putInOrder 39 = .ok (.iaload, 1) := by decide +kernel
theorem d_S_putInOrder_40 : decode b_S_putInOrder 40 = .ok (.istore_n 3, 1) := by decide +kernel
theorem d_S_putInOrder_41 : decode b_S_putInOrder 41 = .ok (.aload_n 0, 1) := by decide +kernel
theorem d_S_putInOrder_42 : decode b_S_putInOrder 42 = .ok (.getfield 24, 3) := by decide +kernel
theorem d_S_putInOrder_45 : decode b_S_putInOrder 45 = .ok (.aload_n 0, 1) := by decide +kernel
theorem d_S_putInOrder_46 : decode b_S_putInOrder 46 = .ok (.getfield 69, 3) := by decide +kernel
theorem d_S_putInOrder_49 : decode b_S_putInOrder 49 = .ok (.iload_n 3, 1) := by decide +kernel
theorem d_S_putInOrder_50 : decode b_S_putInOrder 50 = .ok (.iastore, 1) := by decide +kernel
theorem d_S_putInOrder_51 : decode b_S_putInOrder 51 = .ok (.aload_n 0, 1) := by decide +kernel
theorem d_S_putInOrder_52 : decode b_S_putInOrder 52 = .ok (.dup, 1) := by decide +kernel
theorem d_S_putInOrder_53 : decode b_S_putInOrder 53 = .ok (.getfield 69, 3) := by decide +kernel
theorem d_S_putInOrder_56 : decode b_S_putInOrder 56 = .ok (.iconst 1, 1) := by decide +kernel
theorem d_S_putInOrder_57 : decode b_S_putInOrder 57 = .ok (.iadd, 1) := by decide +kernel
theorem d_S_putInOrder_58 : decode b_S_putInOrder 58 = .ok (.putfield 69, 3) := by decide +kernel
theorem d_S_putInOrder_61 : decode b_S_putInOrder 61 = .ok (.aload_n 0, 1) := by decide +kernel
theorem d_S_putInOrder_62 : decode b_S_putInOrder 62 = .ok (.getfield 30, 3) := by decide +kernel
theorem d_S_putInOrder_65 : decode b_S_putInOrder 65 = .ok (.getfield 42, 3) := by decide +kernel
theorem d_S_putInOrder_68 : decode b_S_putInOrder 68 = .ok (.iconst 1, 1) := by decide +kernel
theorem d_S_putInOrder_69 : decode b_S_putInOrder 69 = .ok (.isub, 1) := by decide +kernel
theorem d_S_putInOrder_70 : decode b_S_putInOrder 70 = .ok (.istore 4, 2) := by decide +kernel
theorem d_S_putInOrder_72 : decode b_S_putInOrder 72 = .ok (.iload 4, 2) := by decide +kernel
theorem d_S_putInOrder_74 : decode b_S_putInOrder 74 = .ok (.ifCond .le 31, 3) := by decide +kernel
theorem d_S_putInOrder_77 : decode b_S_putInOrder 77 = .ok (.aload_n 0, 1) := by decide +kernel
theorem d_S_putInOrder_78 : decode b_S_putInOrder 78 = .ok (.getfield 18, 3) := by decide +kernel
theorem d_S_putInOrder_81 : decode b_S_putInOrder 81 = .ok (.iload 4, 2) := by decide +kernel
theorem d_S_putInOrder_83 : decode b_S_putInOrder 83 = .ok (.iaload, 1) := by decide +kernel
theorem d_S_putInOrder_84 : decode b_S_putInOrder 84 = .ok (.iload_n 3, 1) := by decide +kernel
theorem d_S_putInOrder_85 : decode b_S_putInOrder 85 = .ok (.if_icmp .ne 14, 3) := by decide +kernel
theorem d_S_putInOrder_88 : decode b_S_putInOrder 88 = .ok (.aload_n 0, 1) := by decide +kernel
theorem d_S_putInOrder_89 : decode b_S_putInOrder 89 = .ok (.getfield 27, 3) := by decide +kernel
theorem d_S_putInOrder_92 : decode b_S_putInOrder 92 = .ok (.iload_n 1, 1) := by decide +kernel
theorem d_S_putInOrder_93 : decode b_S_putInOrder 93 = .ok (.iload 4, 2) := by decide +kernel
theorem d_S_putInOrder_95 : decode b_S_putInOrder 95 = .ok (.iastore, 1) := by decide +kernel
theorem d_S_putInOrder_96 : decode b_S_putInOrder 96 = .ok (.iinc 1 1, 3) := by decide +kernel
theorem d_S_putInOrder_99 : decode b_S_putInOrder 99 = .ok (.iinc 4 (-1), 3) := by decide +kernel
theorem d_S_putInOrder_102 : decode b_S_putInOrder 102 = .ok (.goto (-30), 3) := by decide +kernel
theorem d_S_putInOrder_105 : decode b_S_putInOrder 105 = .ok (.iinc 2 1, 3) := by decide +kernel
theorem d_S_putInOrder_108 : decode b_S_putInOrder 108 = .ok (.goto (-92), 3) := by decide +kernel
theorem d_S_putInOrder_111 : decode b_S_putInOrder 111 = .ok (.return_, 1) := by decide +kernel
