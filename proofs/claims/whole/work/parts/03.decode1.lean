theorem d_R_nameBlock_152 : decode b_R_nameBlock 152 = .ok (.getfield 64, 3) := by decide +kernel
theorem d_R_nameBlock_155 : decode b_R_nameBlock 155 = .ok (.iload_n 3, 1) := by decide +kernel
theorem d_R_nameBlock_156 : decode b_R_nameBlock 156 = .ok (.iload 4, 2) := by decide +kernel
theorem d_R_nameBlock_158 : decode b_R_nameBlock 158 = .ok (.invokestatic 129, 3) := by decide +kernel
theorem d_R_nameBlock_161 : decode b_R_nameBlock 161 = .ok (.ifCond .eq 19, 3) := by decide +kernel
theorem d_R_nameBlock_164 : decode b_R_nameBlock 164 = .ok (.aload_n 0, 1) := by decide +kernel
theorem d_R_nameBlock_165 : decode b_R_nameBlock 165 = .ok (.getfield 70, 3) := by decide +kernel
theorem d_R_nameBlock_168 : decode b_R_nameBlock 168 = .ok (.iload_n 2, 1) := by decide +kernel
theorem d_R_nameBlock_169 : decode b_R_nameBlock 169 = .ok (.aload_n 0, 1) := by decide +kernel
theorem d_R_nameBlock_170 : decode b_R_nameBlock 170 = .ok (.getfield 22, 3) := by decide +kernel
theorem d_R_nameBlock_173 : decode b_R_nameBlock 173 = .ok (.iload_n 3, 1) := by decide +kernel
theorem d_R_nameBlock_174 : decode b_R_nameBlock 174 = .ok (.iaload, 1) := by decide +kernel
theorem d_R_nameBlock_175 : decode b_R_nameBlock 175 = .ok (.iadd, 1) := by decide +kernel
theorem d_R_nameBlock_176 : decode b_R_nameBlock 176 = .ok (.iaload, 1) := by decide +kernel
theorem d_R_nameBlock_177 : decode b_R_nameBlock 177 = .ok (.goto 4, 3) := by decide +kernel
theorem d_R_nameBlock_180 : decode b_R_nameBlock 180 = .ok (.iconst (-1), 1) := by decide +kernel
theorem d_R_nameBlock_181 : decode b_R_nameBlock 181 = .ok (.iastore, 1) := by decide +kernel
theorem d_R_nameBlock_182 : decode b_R_nameBlock 182 = .ok (.aload_n 0, 1) := by decide +kernel
theorem d_R_nameBlock_183 : decode b_R_nameBlock 183 = .ok (.getfield 58, 3) := by decide +kernel
theorem d_R_nameBlock_186 : decode b_R_nameBlock 186 = .ok (.iload_n 3, 1) := by decide +kernel
theorem d_R_nameBlock_187 : decode b_R_nameBlock 187 = .ok (.iload 4, 2) := by decide +kernel
theorem d_R_nameBlock_189 : decode b_R_nameBlock 189 = .ok (.invokestatic 120, 3) := by decide +kernel
theorem d_R_nameBlock_192 : decode b_R_nameBlock 192 = .ok (.ifCond .eq 12, 3) := by decide +kernel
theorem d_R_nameBlock_195 : decode b_R_nameBlock 195 = .ok (.aload_n 0, 1) := by decide +kernel
theorem d_R_nameBlock_196 : decode b_R_nameBlock 196 = .ok (.iload_n 1, 1) := by decide +kernel
theorem d_R_nameBlock_197 : decode b_R_nameBlock 197 = .ok (.iload_n 3, 1) := by decide +kernel
theorem d_R_nameBlock_198 : decode b_R_nameBlock 198 = .ok (.invokevirtual 158, 3) := by decide +kernel
theorem d_R_nameBlock_201 : decode b_R_nameBlock 201 = .ok (.goto 4, 3) := by decide +kernel
theorem d_R_nameBlock_204 : decode b_R_nameBlock 204 = .ok (.iconst (-1), 1) := by decide +kernel
theorem d_R_nameBlock_205 : decode b_R_nameBlock 205 = .ok (.iastore, 1) := by decide +kernel
theorem d_R_nameBlock_206 : decode b_R_nameBlock 206 = .ok (.iload 4, 2) := by decide +kernel
theorem d_R_nameBlock_208 : decode b_R_nameBlock 208 = .ok (.invokestatic 120, 3) := by decide +kernel
theorem d_R_nameBlock_211 : decode b_R_nameBlock 211 = .ok (.ifCond .eq 22, 3) := by decide +kernel
theorem d_R_nameBlock_214 : decode b_R_nameBlock 214 = .ok (.aload_n 0, 1) := by decide +kernel
theorem d_R_nameBlock_215 : decode b_R_nameBlock 215 = .ok (.getfield 70, 3) := by decide +kernel
theorem d_R_nameBlock_218 : decode b_R_nameBlock 218 = .ok (.iload_n 2, 1) := by decide +kernel
theorem d_R_nameBlock_219 : decode b_R_nameBlock 219 = .ok (.aload_n 0, 1) := by decide +kernel
theorem d_R_nameBlock_220 : decode b_R_nameBlock 220 = .ok (.getfield 16, 3) := by decide +kernel
theorem d_R_nameBlock_223 : decode b_R_nameBlock 223 = .ok (.iload_n 3, 1) := by decide +kernel
theorem d_R_nameBlock_224 : decode b_R_nameBlock 224 = .ok (.iaload, 1) := by decide +kernel
theorem d_R_nameBlock_225 : decode b_R_nameBlock 225 = .ok (.iadd, 1) := by decide +kernel
theorem d_R_nameBlock_226 : decode b_R_nameBlock 226 = .ok (.aload_n 0, 1) := by decide +kernel
theorem d_R_nameBlock_227 : decode b_R_nameBlock 227 = .ok (.getfield 58, 3) := by decide +kernel
theorem d_R_nameBlock_230 : decode b_R_nameBlock 230 = .ok (.iload_n 3, 1) := by decide +kernel
theorem d_R_nameBlock_231 : decode b_R_nameBlock 231 = .ok (.iaload, 1) := by decide +kernel
theorem d_R_nameBlock_232 : decode b_R_nameBlock 232 = .ok (.iastore, 1) := by decide +kernel
theorem d_R_nameBlock_233 : decode b_R_nameBlock 233 = .ok (.iinc 3 1, 3) := by decide +kernel
theorem d_R_nameBlock_236 : decode b_R_nameBlock 236 = .ok (.goto (-136), 3) := by decide +kernel
theorem d_R_nameBlock_239 : decode b_R_nameBlock 239 = .ok (.aload_n 0, 1) := by decide +kernel
theorem d_R_nameBlock_240 : decode b_R_nameBlock 240 = .ok (.getfield 67, 3) := by decide +kernel
theorem d_R_nameBlock_243 : decode b_R_nameBlock 243 = .ok (.iload_n 1, 1) := by decide +kernel
theorem d_R_nameBlock_244 : decode b_R_nameBlock 244 = .ok (.aload_n 0, 1) := by decide +kernel
theorem d_R_nameBlock_245 : decode b_R_nameBlock 245 = .ok (.getfield 25, 3) := by decide +kernel
theorem d_R_nameBlock_248 : decode b_R_nameBlock 248 = .ok (.iload_n 1, 1) := by decide +kernel
theorem d_R_nameBlock_249 : decode b_R_nameBlock 249 = .ok (.iaload, 1) := by decide +kernel
theorem d_R_nameBlock_250 : decode b_R_nameBlock 250 = .ok (.iconst 2, 1) := by decide +kernel
theorem d_R_nameBlock_251 : decode b_R_nameBlock 251 = .ok (.if_icmp .ne 19, 3) := by decide +kernel
theorem d_R_nameBlock_254 : decode b_R_nameBlock 254 = .ok (.aload_n 0, 1) := by decide +kernel
theorem d_R_nameBlock_255 : decode b_R_nameBlock 255 = .ok (.getfield 70, 3) := by decide +kernel
theorem d_R_nameBlock_258 : decode b_R_nameBlock 258 = .ok (.iload_n 2, 1) := by decide +kernel
theorem d_R_nameBlock_259 : decode b_R_nameBlock 259 = .ok (.aload_n 0, 1) := by decide +kernel
theorem d_R_nameBlock_260 : decode b_R_nameBlock 260 = .ok (.getfield 28, 3) := by decide +kernel
theorem d_R_nameBlock_263 : decode b_R_nameBlock 263 = .ok (.iload_n 1, 1) := by decide +kernel
theorem d_R_nameBlock_264 : decode b_R_nameBlock 264 = .ok (.iaload, 1) := by decide +kernel
theorem d_R_nameBlock_265 : decode b_R_nameBlock 265 = .ok (.iadd, 1) := by decide +kernel
theorem d_R_nameBlock_266 : decode b_R_nameBlock 266 = .ok (.iaload, 1) := by decide +kernel
theorem d_R_nameBlock_267 : decode b_R_nameBlock 267 = .ok (.goto 4, 3) := by decide +kernel
theorem d_R_nameBlock_270 : decode b_R_nameBlock 270 = .ok (.iconst (-1), 1) := by decide +kernel
theorem d_R_nameBlock_271 : decode b_R_nameBlock 271 = .ok (.iastore, 1) := by decide +kernel
theorem d_R_nameBlock_272 : decode b_R_nameBlock 272 = .ok (.return_, 1) := by decide +kernel
theorem d_R_nameAll_0 : decode b_R_nameAll 0 = .ok (.aload_n 0, 1) := by decide +kernel
theorem d_R_nameAll_1 : decode b_R_nameAll 1 = .ok (.bipush 6, 2) := by decide +kernel
theorem d_R_nameAll_3 : decode b_R_nameAll 3 = .ok (.putfield 155, 3) := by decide +kernel
theorem d_R_nameAll_6 : decode b_R_nameAll 6 = .ok (.iconst 0, 1) := by decide +kernel
theorem d_R_nameAll_7 : decode b_R_nameAll 7 = .ok (.istore_n 1, 1) := by decide +kernel
theorem d_R_nameAll_8 : decode b_R_nameAll 8 = .ok (.iload_n 1, 1) := by decide +kernel
theorem d_R_nameAll_9 : decode b_R_nameAll 9 = .ok (.bipush 6, 2) := by decide +kernel
theorem d_R_nameAll_11 : decode b_R_nameAll 11 = .ok (.if_icmp .ge 16, 3) := by decide +kernel
theorem d_R_nameAll_14 : decode b_R_nameAll 14 = .ok (.aload_n 0, 1) := by decide +kernel
theorem d_R_nameAll_15 : decode b_R_nameAll 15 = .ok (.getfield 49, 3) := by decide +kernel
theorem d_R_nameAll_18 : decode b_R_nameAll 18 = .ok (.iload_n 1, 1) := by decide +kernel
theorem d_R_nameAll_19 : decode b_R_nameAll 19 = .ok (.iconst (-1), 1) := by decide +kernel
theorem d_R_nameAll_20 : decode b_R_nameAll 20 = .ok (.iastore, 1) := by decide +kernel
theorem d_R_nameAll_21 : decode b_R_nameAll 21 = .ok (.iinc 1 1, 3) := by decide +kernel
theorem d_R_nameAll_24 : decode b_R_nameAll 24 = .ok (.goto (-16), 3) := by decide +kernel
theorem d_R_nameAll_27 : decode b_R_nameAll 27 = .ok (.iconst 1, 1) := by decide +kernel
theorem d_R_nameAll_28 : decode b_R_nameAll 28 = .ok (.istore_n 1, 1) := by decide +kernel
theorem d_R_nameAll_29 : decode b_R_nameAll 29 = .ok (.aload_n 0, 1) := by decide +kernel
theorem d_R_nameAll_30 : decode b_R_nameAll 30 = .ok (.getfield 73, 3) := by decide +kernel
theorem d_R_nameAll_33 : decode b_R_nameAll 33 = .ok (.iconst 0, 1) := by decide +kernel
theorem d_R_nameAll_34 : decode b_R_nameAll 34 = .ok (.iconst 0, 1) := by decide +kernel
theorem d_R_nameAll_35 : decode b_R_nameAll 35 = .ok (.iastore, 1) := by decide +kernel
theorem d_R_nameAll_36 : decode b_R_nameAll 36 = .ok (.iload_n 1, 1) := by decide +kernel
theorem d_R_nameAll_37 : decode b_R_nameAll 37 = .ok (.ifCond .le 69, 3) := by decide +kernel
theorem d_R_nameAll_40 : decode b_R_nameAll 40 = .ok (.iinc 1 (-1), 3) := by decide +kernel
theorem d_R_nameAll_43 : decode b_R_nameAll 43 = .ok (.aload_n 0, 1) := by decide +kernel
theorem d_R_nameAll_44 : decode b_R_nameAll 44 = .ok (.getfield 73, 3) := by decide +kernel
theorem d_R_nameAll_47 : decode b_R_nameAll 47 = .ok (.iload_n 1, 1) := by decide +kernel
theorem d_R_nameAll_48 : decode b_R_nameAll 48 = .ok (.iaload, 1) := by decide +kernel
theorem d_R_nameAll_49 : decode b_R_nameAll 49 = .ok (.istore_n 2, 1) := by decide +kernel
theorem d_R_nameAll_50 : decode b_R_nameAll 50 = .ok (.aload_n 0, 1) := by decide +kernel
theorem d_R_nameAll_51 : decode b_R_nameAll 51 = .ok (.iload_n 2, 1) := by decide +kernel
theorem d_R_nameAll_52 : decode b_R_nameAll 52 = .ok (.invokevirtual 162, 3) := by decide +kernel
theorem d_R_nameAll_55 : decode b_R_nameAll 55 = .ok (.aload_n 0, 1) := by decide +kernel
theorem d_R_nameAll_56 : decode b_R_nameAll 56 = .ok (.getfield 105, 3) := by decide +kernel
theorem d_R_nameAll_59 : decode b_R_nameAll 59 = .ok (.iconst 1, 1) := by decide +kernel
theorem d_R_nameAll_60 : decode b_R_nameAll 60 = .ok (.isub, 1) := by decide +kernel
theorem d_R_nameAll_61 : decode b_R_nameAll 61 = .ok (.istore_n 3, 1) := by decide +kernel
theorem d_R_nameAll_62 : decode b_R_nameAll 62 = .ok (.iload_n 3, 1) := by decide +kernel
theorem d_R_nameAll_63 : decode b_R_nameAll 63 = .ok (.ifCond .le 40, 3) := by decide +kernel
theorem d_R_nameAll_66 : decode b_R_nameAll 66 = .ok (.aload_n 0, 1) := by decide +kernel
theorem d_R_nameAll_67 : decode b_R_nameAll 67 = .ok (.getfield 135, 3) := by decide +kernel
theorem d_R_nameAll_70 : decode b_R_nameAll 70 = .ok (.iload_n 3, 1) := by decide +kernel
theorem d_R_nameAll_71 : decode b_R_nameAll 71 = .ok (.invokestatic 138, 3) := by decide +kernel
theorem d_R_nameAll_74 : decode b_R_nameAll 74 = .ok (.ifCond .eq 23, 3) := by decide +kernel
theorem d_R_nameAll_77 : decode b_R_nameAll 77 = .ok (.aload_n 0, 1) := by decide +kernel
theorem d_R_nameAll_78 : decode b_R_nameAll 78 = .ok (.getfield 43, 3) := by decide +kernel
theorem d_R_nameAll_81 : decode b_R_nameAll 81 = .ok (.iload_n 3, 1) := by decide +kernel
theorem d_R_nameAll_82 : decode b_R_nameAll 82 = .ok (.iaload, 1) := by decide +kernel
theorem d_R_nameAll_83 : decode b_R_nameAll 83 = .ok (.iload_n 2, 1) := by decide +kernel
theorem d_R_nameAll_84 : decode b_R_nameAll 84 = .ok (.if_icmp .ne 13, 3) := by decide +kernel
theorem d_R_nameAll_87 : decode b_R_nameAll 87 = .ok (.aload_n 0, 1) := by decide +kernel
theorem d_R_nameAll_88 : decode b_R_nameAll 88 = .ok (.getfield 73, 3) := by decide +kernel
theorem d_R_nameAll_91 : decode b_R_nameAll 91 = .ok (.iload_n 1, 1) := by decide +kernel
theorem d_R_nameAll_92 : decode b_R_nameAll 92 = .ok (.iload_n 3, 1) := by decide +kernel
theorem d_R_nameAll_93 : decode b_R_nameAll 93 = .ok (.iastore, 1) := by decide +kernel
theorem d_R_nameAll_94 : decode b_R_nameAll 94 = .ok (.iinc 1 1, 3) := by decide +kernel
theorem d_R_nameAll_97 : decode b_R_nameAll 97 = .ok (.iinc 3 (-1), 3) := by decide +kernel
theorem d_R_nameAll_100 : decode b_R_nameAll 100 = .ok (.goto (-38), 3) := by decide +kernel
theorem d_R_nameAll_103 : decode b_R_nameAll 103 = .ok (.goto (-67), 3) := by decide +kernel
theorem d_R_nameAll_106 : decode b_R_nameAll 106 = .ok (.return_, 1) := by decide +kernel
theorem d_R_reckon_0 : decode b_R_reckon 0 = .ok (.iload_n 1, 1) := by decide +kernel
theorem d_R_reckon_1 : decode b_R_reckon 1 = .ok (.tableswitch 39 2 4 #[27, 31, 35], 27) := by decide +kernel
theorem d_R_reckon_28 : decode b_R_reckon 28 = .ok (.iload_n 2, 1) := by decide +kernel
theorem d_R_reckon_29 : decode b_R_reckon 29 = .ok (.iload_n 3, 1) := by decide +kernel
theorem d_R_reckon_30 : decode b_R_reckon 30 = .ok (.iadd, 1) := by decide +kernel
theorem d_R_reckon_31 : decode b_R_reckon 31 = .ok (.ireturn, 1) := by decide +kernel
theorem d_R_reckon_32 : decode b_R_reckon 32 = .ok (.iload_n 2, 1) := by decide +kernel
theorem d_R_reckon_33 : decode b_R_reckon 33 = .ok (.iload_n 3, 1) := by decide +kernel
theorem d_R_reckon_34 : decode b_R_reckon 34 = .ok (.isub, 1) := by decide +kernel
theorem d_R_reckon_35 : decode b_R_reckon 35 = .ok (.ireturn, 1) := by decide +kernel
theorem d_R_reckon_36 : decode b_R_reckon 36 = .ok (.iload_n 2, 1) := by decide +kernel
theorem d_R_reckon_37 : decode b_R_reckon 37 = .ok (.iload_n 3, 1) := by decide +kernel
theorem d_R_reckon_38 : decode b_R_reckon 38 = .ok (.imul, 1) := by decide +kernel
theorem d_R_reckon_39 : decode b_R_reckon 39 = .ok (.ireturn, 1) := by decide +kernel
theorem d_R_reckon_40 : decode b_R_reckon 40 = .ok (.iload_n 2, 1) := by decide +kernel
theorem d_R_reckon_41 : decode b_R_reckon 41 = .ok (.iload_n 3, 1) := by decide +kernel
theorem d_R_reckon_42 : decode b_R_reckon 42 = .ok (.if_icmp .ge 7, 3) := by decide +kernel
theorem d_R_reckon_45 : decode b_R_reckon 45 = .ok (.iconst 1, 1) := by decide +kernel
theorem d_R_reckon_46 : decode b_R_reckon 46 = .ok (.goto 4, 3) := by decide +kernel
theorem d_R_reckon_49 : decode b_R_reckon 49 = .ok (.iconst 0, 1) := by decide +kernel
theorem d_R_reckon_50 : decode b_R_reckon 50 = .ok (.ireturn, 1) := by decide +kernel
theorem d_R_becomes_0 : decode b_R_becomes 0 = .ok (.aload_n 0, 1) := by decide +kernel
theorem d_R_becomes_1 : decode b_R_becomes 1 = .ok (.getfield 79, 3) := by decide +kernel
theorem d_R_becomes_4 : decode b_R_becomes 4 = .ok (.iload_n 1, 1) := by decide +kernel
theorem d_R_becomes_5 : decode b_R_becomes 5 = .ok (.iaload, 1) := by decide +kernel
theorem d_R_becomes_6 : decode b_R_becomes 6 = .ok (.iload_n 2, 1) := by decide +kernel
theorem d_R_becomes_7 : decode b_R_becomes 7 = .ok (.if_icmp .ne 18, 3) := by decide +kernel
theorem d_R_becomes_10 : decode b_R_becomes 10 = .ok (.iload_n 2, 1) := by decide +kernel
theorem d_R_becomes_11 : decode b_R_becomes 11 = .ok (.iconst 1, 1) := by decide +kernel
theorem d_R_becomes_12 : decode b_R_becomes 12 = .ok (.if_icmp .ne 17, 3) := by decide +kernel
theorem d_R_becomes_15 : decode b_R_becomes 15 = .ok (.aload_n 0, 1) := by decide +kernel
theorem d_R_becomes_16 : decode b_R_becomes 16 = .ok (.getfield 82, 3) := by decide +kernel
theorem d_R_becomes_19 : decode b_R_becomes 19 = .ok (.iload_n 1, 1) := by decide +kernel
theorem d_R_becomes_20 : decode b_R_becomes 20 = .ok (.iaload, 1) := by decide +kernel
theorem d_R_becomes_21 : decode b_R_becomes 21 = .ok (.iload_n 3, 1) := by decide +kernel
theorem d_R_becomes_22 : decode b_R_becomes 22 = .ok (.if_icmp .eq 7, 3) := by decide +kernel
theorem d_R_becomes_25 : decode b_R_becomes 25 = .ok (.iconst 1, 1) := by decide +kernel
theorem d_R_becomes_26 : decode b_R_becomes 26 = .ok (.goto 4, 3) := by decide +kernel
theorem d_R_becomes_29 : decode b_R_becomes 29 = .ok (.iconst 0, 1) := by decide +kernel
theorem d_R_becomes_30 : decode b_R_becomes 30 = .ok (.istore 4, 2) := by decide +kernel
theorem d_R_becomes_32 : decode b_R_becomes 32 = .ok (.aload_n 0, 1) := by decide +kernel
theorem d_R_becomes_33 : decode b_R_becomes 33 = .ok (.getfield 79, 3) := by decide +kernel
theorem d_R_becomes_36 : decode b_R_becomes 36 = .ok (.iload_n 1, 1) := by decide +kernel
theorem d_R_becomes_37 : decode b_R_becomes 37 = .ok (.iload_n 2, 1) := by decide +kernel
theorem d_R_becomes_38 : decode b_R_becomes 38 = .ok (.iastore, 1) := by decide +kernel
theorem d_R_becomes_39 : decode b_R_becomes 39 = .ok (.aload_n 0, 1) := by decide +kernel
theorem d_R_becomes_40 : decode b_R_becomes 40 = .ok (.getfield 82, 3) := by decide +kernel
theorem d_R_becomes_43 : decode b_R_becomes 43 = .ok (.iload_n 1, 1) := by decide +kernel
theorem d_R_becomes_44 : decode b_R_becomes 44 = .ok (.iload_n 2, 1) := by decide +kernel
theorem d_R_becomes_45 : decode b_R_becomes 45 = .ok (.iconst 1, 1) := by decide +kernel
theorem d_R_becomes_46 : decode b_R_becomes 46 = .ok (.if_icmp .ne 7, 3) := by decide +kernel
theorem d_R_becomes_49 : decode b_R_becomes 49 = .ok (.iload_n 3, 1) := by decide +kernel
theorem d_R_becomes_50 : decode b_R_becomes 50 = .ok (.goto 4, 3) := by decide +kernel
theorem d_R_becomes_53 : decode b_R_becomes 53 = .ok (.iconst 0, 1) := by decide +kernel
theorem d_R_becomes_54 : decode b_R_becomes 54 = .ok (.iastore, 1) := by decide +kernel
theorem d_R_becomes_55 : decode b_R_becomes 55 = .ok (.iload 4, 2) := by decide +kernel
theorem d_R_becomes_57 : decode b_R_becomes 57 = .ok (.ireturn, 1) := by decide +kernel
theorem d_R_meet_0 : decode b_R_meet 0 = .ok (.iconst 0, 1) := by decide +kernel
theorem d_R_meet_1 : decode b_R_meet 1 = .ok (.istore 4, 2) := by decide +kernel
theorem d_R_meet_3 : decode b_R_meet 3 = .ok (.iconst 0, 1) := by decide +kernel
theorem d_R_meet_4 : decode b_R_meet 4 = .ok (.istore 5, 2) := by decide +kernel
theorem d_R_meet_6 : decode b_R_meet 6 = .ok (.iconst 0, 1) := by decide +kernel
theorem d_R_meet_7 : decode b_R_meet 7 = .ok (.istore 6, 2) := by decide +kernel
theorem d_R_meet_9 : decode b_R_meet 9 = .ok (.iload 6, 2) := by decide +kernel
theorem d_R_meet_11 : decode b_R_meet 11 = .ok (.aload_n 0, 1) := by decide +kernel
theorem d_R_meet_12 : decode b_R_meet 12 = .ok (.getfield 105, 3) := by decide +kernel
theorem d_R_meet_15 : decode b_R_meet 15 = .ok (.if_icmp .ge 140, 3) := by decide +kernel
theorem d_R_meet_18 : decode b_R_meet 18 = .ok (.aload_n 0, 1) := by decide +kernel
theorem d_R_meet_19 : decode b_R_meet 19 = .ok (.getfield 40, 3) := by decide +kernel
theorem d_R_meet_22 : decode b_R_meet 22 = .ok (.iload_n 2, 1) := by decide +kernel
theorem d_R_meet_23 : decode b_R_meet 23 = .ok (.iaload, 1) := by decide +kernel
theorem d_R_meet_24 : decode b_R_meet 24 = .ok (.iload 6, 2) := by decide +kernel
theorem d_R_meet_26 : decode b_R_meet 26 = .ok (.invokestatic 138, 3) := by decide +kernel
theorem d_R_meet_29 : decode b_R_meet 29 = .ok (.ifCond .eq 120, 3) := by decide +kernel
theorem d_R_meet_32 : decode b_R_meet 32 = .ok (.aload_n 0, 1) := by decide +kernel
theorem d_R_meet_33 : decode b_R_meet 33 = .ok (.getfield 166, 3) := by decide +kernel
theorem d_R_meet_36 : decode b_R_meet 36 = .ok (.iload 6, 2) := by decide +kernel
theorem d_R_meet_38 : decode b_R_meet 38 = .ok (.invokestatic 138, 3) := by decide +kernel
theorem d_R_meet_41 : decode b_R_meet 41 = .ok (.ifCond .eq 108, 3) := by decide +kernel
theorem d_R_meet_44 : decode b_R_meet 44 = .ok (.aload_n 0, 1) := by decide +kernel
theorem d_R_meet_45 : decode b_R_meet 45 = .ok (.getfield 76, 3) := by decide +kernel
theorem d_R_meet_48 : decode b_R_meet 48 = .ok (.iload 6, 2) := by decide +kernel
theorem d_R_meet_50 : decode b_R_meet 50 = .ok (.iaload, 1) := by decide +kernel
theorem d_R_meet_51 : decode b_R_meet 51 = .ok (.iload_n 2, 1) := by decide +kernel
theorem d_R_meet_52 : decode b_R_meet 52 = .ok (.invokestatic 138, 3) := by decide +kernel
theorem d_R_meet_55 : decode b_R_meet 55 = .ok (.ifCond .ne 6, 3) := by decide +kernel
theorem d_R_meet_58 : decode b_R_meet 58 = .ok (.goto 91, 3) := by decide +kernel
theorem d_R_meet_61 : decode b_R_meet 61 = .ok (.aload_n 0, 1) := by decide +kernel
theorem d_R_meet_62 : decode b_R_meet 62 = .ok (.getfield 70, 3) := by decide +kernel
theorem d_R_meet_65 : decode b_R_meet 65 = .ok (.bipush 6, 2) := by decide +kernel
theorem d_R_meet_67 : decode b_R_meet 67 = .ok (.iload 6, 2) := by decide +kernel
theorem d_R_meet_69 : decode b_R_meet 69 = .ok (.imul, 1) := by decide +kernel
theorem d_R_meet_70 : decode b_R_meet 70 = .ok (.iload_n 3, 1) := by decide +kernel
theorem d_R_meet_71 : decode b_R_meet 71 = .ok (.iadd, 1) := by decide +kernel
theorem d_R_meet_72 : decode b_R_meet 72 = .ok (.iaload, 1) := by decide +kernel
theorem d_R_meet_73 : decode b_R_meet 73 = .ok (.istore 7, 2) := by decide +kernel
theorem d_R_meet_75 : decode b_R_meet 75 = .ok (.aload_n 0, 1) := by decide +kernel
theorem d_R_meet_76 : decode b_R_meet 76 = .ok (.getfield 79, 3) := by decide +kernel
theorem d_R_meet_79 : decode b_R_meet 79 = .ok (.iload 7, 2) := by decide +kernel
theorem d_R_meet_81 : decode b_R_meet 81 = .ok (.iaload, 1) := by decide +kernel
theorem d_R_meet_82 : decode b_R_meet 82 = .ok (.iconst 2, 1) := by decide +kernel
theorem d_R_meet_83 : decode b_R_meet 83 = .ok (.if_icmp .eq 32, 3) := by decide +kernel
theorem d_R_meet_86 : decode b_R_meet 86 = .ok (.iload 4, 2) := by decide +kernel
theorem d_R_meet_88 : decode b_R_meet 88 = .ok (.iconst 1, 1) := by decide +kernel
theorem d_R_meet_89 : decode b_R_meet 89 = .ok (.if_icmp .ne 32, 3) := by decide +kernel
theorem d_R_meet_92 : decode b_R_meet 92 = .ok (.aload_n 0, 1) := by decide +kernel
theorem d_R_meet_93 : decode b_R_meet 93 = .ok (.getfield 79, 3) := by decide +kernel
theorem d_R_meet_96 : decode b_R_meet 96 = .ok (.iload 7, 2) := by decide +kernel
theorem d_R_meet_98 : decode b_R_meet 98 = .ok (.iaload, 1) := by decide +kernel
theorem d_R_meet_99 : decode b_R_meet 99 = .ok (.iconst 1, 1) := by decide +kernel
theorem d_R_meet_100 : decode b_R_meet 100 = .ok (.if_icmp .ne 21, 3) := by decide +kernel
theorem d_R_meet_103 : decode b_R_meet 103 = .ok (.aload_n 0, 1) := by decide +kernel
theorem d_R_meet_104 : decode b_R_meet 104 = .ok (.getfield 82, 3) := by decide +kernel
theorem d_R_meet_107 : decode b_R_meet 107 = .ok (.iload 7, 2) := by decide +kernel
theorem d_R_meet_109 : decode b_R_meet 109 = .ok (.iaload, 1) := by decide +kernel
theorem d_R_meet_110 : decode b_R_meet 110 = .ok (.iload 5, 2) := by decide +kernel
theorem d_R_meet_112 : decode b_R_meet 112 = .ok (.if_icmp .eq 9, 3) := by decide +kernel
theorem d_R_meet_115 : decode b_R_meet 115 = .ok (.iconst 2, 1) := by decide +kernel
theorem d_R_meet_116 : decode b_R_meet 116 = .ok (.istore 4, 2) := by decide +kernel
theorem d_R_meet_118 : decode b_R_meet 118 = .ok (.goto 31, 3) := by decide +kernel
theorem d_R_meet_121 : decode b_R_meet 121 = .ok (.iload 4, 2) := by decide +kernel
theorem d_R_meet_123 : decode b_R_meet 123 = .ok (.ifCond .ne 26, 3) := by decide +kernel
theorem d_R_meet_126 : decode b_R_meet 126 = .ok (.aload_n 0, 1) := by decide +kernel
theorem d_R_meet_127 : decode b_R_meet 127 = .ok (.getfield 79, 3) := by decide +kernel
theorem d_R_meet_130 : decode b_R_meet 130 = .ok (.iload 7, 2) := by decide +kernel
theorem d_R_meet_132 : decode b_R_meet 132 = .ok (.iaload, 1) := by decide +kernel
theorem d_R_meet_133 : decode b_R_meet 133 = .ok (.iconst 1, 1) := by decide +kernel
theorem d_R_meet_134 : decode b_R_meet 134 = .ok (.if_icmp .ne 15, 3) := by decide +kernel
theorem d_R_meet_137 : decode b_R_meet 137 = .ok (.iconst 1, 1) := by decide +kernel
theorem d_R_meet_138 : decode b_R_meet 138 = .ok (.istore 4, 2) := by decide +kernel
theorem d_R_meet_140 : decode b_R_meet 140 = .ok (.aload_n 0, 1) := by decide +kernel
theorem d_R_meet_141 : decode b_R_meet 141 = .ok (.getfield 82, 3) := by decide +kernel
theorem d_R_meet_144 : decode b_R_meet 144 = .ok (.iload 7, 2) := by decide +kernel
theorem d_R_meet_146 : decode b_R_meet 146 = .ok (.iaload, 1) := by decide +kernel
theorem d_R_meet_147 : decode b_R_meet 147 = .ok (.istore 5, 2) := by decide +kernel
theorem d_R_meet_149 : decode b_R_meet 149 = .ok (.iinc 6 1, 3) := by decide +kernel
theorem d_R_meet_152 : decode b_R_meet 152 = .ok (.goto (-143), 3) := by decide +kernel
theorem d_R_meet_155 : decode b_R_meet 155 = .ok (.aload_n 0, 1) := by decide +kernel
theorem d_R_meet_156 : decode b_R_meet 156 = .ok (.iload_n 1, 1) := by decide +kernel
theorem d_R_meet_157 : decode b_R_meet 157 = .ok (.iload 4, 2) := by decide +kernel
theorem d_R_meet_159 : decode b_R_meet 159 = .ok (.iload 5, 2) := by decide +kernel
theorem d_R_meet_161 : decode b_R_meet 161 = .ok (.invokevirtual 169, 3) := by decide +kernel
theorem d_R_meet_164 : decode b_R_meet 164 = .ok (.ireturn, 1) := by decide +kernel
theorem d_R_knows_0 : decode b_R_knows 0 = .ok (.aload_n 0, 1) := by decide +kernel
theorem d_R_knows_1 : decode b_R_knows 1 = .ok (.getfield 58, 3) := by decide +kernel
theorem d_R_knows_4 : decode b_R_knows 4 = .ok (.iload_n 1, 1) := by decide +kernel
theorem d_R_knows_5 : decode b_R_knows 5 = .ok (.iaload, 1) := by decide +kernel
theorem d_R_knows_6 : decode b_R_knows 6 = .ok (.istore_n 2, 1) := by decide +kernel
theorem d_R_knows_7 : decode b_R_knows 7 = .ok (.aload_n 0, 1) := by decide +kernel
theorem d_R_knows_8 : decode b_R_knows 8 = .ok (.getfield 13, 3) := by decide +kernel
theorem d_R_knows_11 : decode b_R_knows 11 = .ok (.iload_n 1, 1) := by decide +kernel
theorem d_R_knows_12 : decode b_R_knows 12 = .ok (.iaload, 1) := by decide +kernel
theorem d_R_knows_13 : decode b_R_knows 13 = .ok (.istore_n 3, 1) := by decide +kernel
theorem d_R_knows_14 : decode b_R_knows 14 = .ok (.iload_n 2, 1) := by decide +kernel
theorem d_R_knows_15 : decode b_R_knows 15 = .ok (.ifCond .ge 5, 3) := by decide +kernel
theorem d_R_knows_18 : decode b_R_knows 18 = .ok (.iconst 0, 1) := by decide +kernel
theorem d_R_knows_19 : decode b_R_knows 19 = .ok (.ireturn, 1) := by decide +kernel
theorem d_R_knows_20 : decode b_R_knows 20 = .ok (.iload_n 3, 1) := by decide +kernel
theorem d_R_knows_21 : decode b_R_knows 21 = .ok (.ifCond .ne 16, 3) := by decide +kernel
theorem d_R_knows_24 : decode b_R_knows 24 = .ok (.aload_n 0, 1) := by decide +kernel
theorem d_R_knows_25 : decode b_R_knows 25 = .ok (.iload_n 2, 1) := by decide +kernel
theorem d_R_knows_26 : decode b_R_knows 26 = .ok (.iconst 1, 1) := by decide +kernel
theorem d_R_knows_27 : decode b_R_knows 27 = .ok (.aload_n 0, 1) := by decide +kernel
theorem d_R_knows_28 : decode b_R_knows 28 = .ok (.getfield 19, 3) := by decide +kernel
theorem d_R_knows_31 : decode b_R_knows 31 = .ok (.iload_n 1, 1) := by decide +kernel
theorem d_R_knows_32 : decode b_R_knows 32 = .ok (.iaload, 1) := by decide +kernel
theorem d_R_knows_33 : decode b_R_knows 33 = .ok (.invokevirtual 169, 3) := by decide +kernel
theorem d_R_knows_36 : decode b_R_knows 36 = .ok (.ireturn, 1) := by decide +kernel
theorem d_R_knows_37 : decode b_R_knows 37 = .ok (.iload_n 3, 1) := by decide +kernel
theorem d_R_knows_38 : decode b_R_knows 38 = .ok (.bipush 6, 2) := by decide +kernel
theorem d_R_knows_40 : decode b_R_knows 40 = .ok (.if_icmp .ne 11, 3) := by decide +kernel
theorem d_R_knows_43 : decode b_R_knows 43 = .ok (.aload_n 0, 1) := by decide +kernel
theorem d_R_knows_44 : decode b_R_knows 44 = .ok (.iload_n 2, 1) := by decide +kernel
theorem d_R_knows_45 : decode b_R_knows 45 = .ok (.iconst 2, 1) := by decide +kernel
theorem d_R_knows_46 : decode b_R_knows 46 = .ok (.iconst 0, 1) := by decide +kernel
theorem d_R_knows_47 : decode b_R_knows 47 = .ok (.invokevirtual 169, 3) := by decide +kernel
theorem d_R_knows_50 : decode b_R_knows 50 = .ok (.ireturn, 1) := by decide +kernel
theorem d_R_knows_51 : decode b_R_knows 51 = .ok (.aload_n 0, 1) := by decide +kernel
theorem d_R_knows_52 : decode b_R_knows 52 = .ok (.getfield 61, 3) := by decide +kernel
theorem d_R_knows_55 : decode b_R_knows 55 = .ok (.iload_n 1, 1) := by decide +kernel
theorem d_R_knows_56 : decode b_R_knows 56 = .ok (.iaload, 1) := by decide +kernel
theorem d_R_knows_57 : decode b_R_knows 57 = .ok (.istore 4, 2) := by decide +kernel
theorem d_R_knows_59 : decode b_R_knows 59 = .ok (.iload_n 3, 1) := by decide +kernel
theorem d_R_knows_60 : decode b_R_knows 60 = .ok (.iconst 1, 1) := by decide +kernel
theorem d_R_knows_61 : decode b_R_knows 61 = .ok (.if_icmp .ne 23, 3) := by decide +kernel
theorem d_R_knows_64 : decode b_R_knows 64 = .ok (.aload_n 0, 1) := by decide +kernel
theorem d_R_knows_65 : decode b_R_knows 65 = .ok (.iload_n 2, 1) := by decide +kernel
theorem d_R_knows_66 : decode b_R_knows 66 = .ok (.aload_n 0, 1) := by decide +kernel
theorem d_R_knows_67 : decode b_R_knows 67 = .ok (.getfield 79, 3) := by decide +kernel
theorem d_R_knows_70 : decode b_R_knows 70 = .ok (.iload 4, 2) := by decide +kernel
theorem d_R_knows_72 : decode b_R_knows 72 = .ok (.iaload, 1) := by decide +kernel
theorem d_R_knows_73 : decode b_R_knows 73 = .ok (.aload_n 0, 1) := by decide +kernel
theorem d_R_knows_74 : decode b_R_knows 74 = .ok (.getfield 82, 3) := by decide +kernel
theorem d_R_knows_77 : decode b_R_knows 77 = .ok (.iload 4, 2) := by decide +kernel
theorem d_R_knows_79 : decode b_R_knows 79 = .ok (.iaload, 1) := by decide +kernel
theorem d_R_knows_80 : decode b_R_knows 80 = .ok (.invokevirtual 169, 3) := by decide +kernel
theorem d_R_knows_83 : decode b_R_knows 83 = .ok (.ireturn, 1) := by decide +kernel
theorem d_R_knows_84 : decode b_R_knows 84 = .ok (.aload_n 0, 1) := by decide +kernel
theorem d_R_knows_85 : decode b_R_knows 85 = .ok (.getfield 64, 3) := by decide +kernel
theorem d_R_knows_88 : decode b_R_knows 88 = .ok (.iload_n 1, 1) := by decide +kernel
theorem d_R_knows_89 : decode b_R_knows 89 = .ok (.iaload, 1) := by decide +kernel
theorem d_R_knows_90 : decode b_R_knows 90 = .ok (.istore 5, 2) := by decide +kernel
theorem d_R_knows_92 : decode b_R_knows 92 = .ok (.aload_n 0, 1) := by decide +kernel
theorem d_R_knows_93 : decode b_R_knows 93 = .ok (.getfield 79, 3) := by decide +kernel
theorem d_R_knows_96 : decode b_R_knows 96 = .ok (.iload 4, 2) := by decide +kernel
theorem d_R_knows_98 : decode b_R_knows 98 = .ok (.iaload, 1) := by decide +kernel
theorem d_R_knows_99 : decode b_R_knows 99 = .ok (.iconst 2, 1) := by decide +kernel
theorem d_R_knows_100 : decode b_R_knows 100 = .ok (.if_icmp .eq 14, 3) := by decide +kernel
theorem d_R_knows_103 : decode b_R_knows 103 = .ok (.aload_n 0, 1) := by decide +kernel
theorem d_R_knows_104 : decode b_R_knows 104 = .ok (.getfield 79, 3) := by decide +kernel
theorem d_R_knows_107 : decode b_R_knows 107 = .ok (.iload 5, 2) := by decide +kernel
theorem d_R_knows_109 : decode b_R_knows 109 = .ok (.iaload, 1) := by decide +kernel
theorem d_R_knows_110 : decode b_R_knows 110 = .ok (.iconst 2, 1) := by decide +kernel
theorem d_R_knows_111 : decode b_R_knows 111 = .ok (.if_icmp .ne 11, 3) := by decide +kernel
theorem d_R_knows_114 : decode b_R_knows 114 = .ok (.aload_n 0, 1) := by decide +kernel
theorem d_R_knows_115 : decode b_R_knows 115 = .ok (.iload_n 2, 1) := by decide +kernel
theorem d_R_knows_116 : decode b_R_knows 116 = .ok (.iconst 2, 1) := by decide +kernel
theorem d_R_knows_117 : decode b_R_knows 117 = .ok (.iconst 0, 1) := by decide +kernel
theorem d_R_knows_118 : decode b_R_knows 118 = .ok (.invokevirtual 169, 3) := by decide +kernel
theorem d_R_knows_121 : decode b_R_knows 121 = .ok (.ireturn, 1) := by decide +kernel
theorem d_R_knows_122 : decode b_R_knows 122 = .ok (.aload_n 0, 1) := by decide +kernel
theorem d_R_knows_123 : decode b_R_knows 123 = .ok (.getfield 79, 3) := by decide +kernel
theorem d_R_knows_126 : decode b_R_knows 126 = .ok (.iload 4, 2) := by decide +kernel
theorem d_R_knows_128 : decode b_R_knows 128 = .ok (.iaload, 1) := by decide +kernel
theorem d_R_knows_129 : decode b_R_knows 129 = .ok (.iconst 1, 1) := by decide +kernel
theorem d_R_knows_130 : decode b_R_knows 130 = .ok (.if_icmp .ne 46, 3) := by decide +kernel
theorem d_R_knows_133 : decode b_R_knows 133 = .ok (.aload_n 0, 1) := by decide +kernel
theorem d_R_knows_134 : decode b_R_knows 134 = .ok (.getfield 79, 3) := by decide +kernel
theorem d_R_knows_137 : decode b_R_knows 137 = .ok (.iload 5, 2) := by decide +kernel
theorem d_R_knows_139 : decode b_R_knows 139 = .ok (.iaload, 1) := by decide +kernel
theorem d_R_knows_140 : decode b_R_knows 140 = .ok (.iconst 1, 1) := by decide +kernel
theorem d_R_knows_141 : decode b_R_knows 141 = .ok (.if_icmp .ne 35, 3) := by decide +kernel
theorem d_R_knows_144 : decode b_R_knows 144 = .ok (.aload_n 0, 1) := by decide +kernel
theorem d_R_knows_145 : decode b_R_knows 145 = .ok (.iload_n 2, 1) := by decide +kernel
theorem d_R_knows_146 : decode b_R_knows 146 = .ok (.iconst 1, 1) := by decide +kernel
theorem d_R_knows_147 : decode b_R_knows 147 = .ok (.aload_n 0, 1) := by decide +kernel
theorem d_R_knows_148 : decode b_R_knows 148 = .ok (.iload_n 3, 1) := by decide +kernel
theorem d_R_knows_149 : decode b_R_knows 149 = .ok (.aload_n 0, 1) := by decide +kernel
theorem d_R_knows_150 : decode b_R_knows 150 = .ok (.getfield 82, 3) := by decide +kernel
theorem d_R_knows_153 : decode b_R_knows 153 = .ok (.iload 4, 2) := by decide +kernel
theorem d_R_knows_155 : decode b_R_knows 155 = .ok (.iaload, 1) := by decide +kernel
theorem d_R_knows_156 : decode b_R_knows 156 = .ok (.aload_n 0, 1) := by decide +kernel
theorem d_R_knows_157 : decode b_R_knows 157 = .ok (.getfield 82, 3) := by decide +kernel
theorem d_R_knows_160 : decode b_R_knows 160 = .ok (.iload 5, 2) := by decide +kernel
theorem d_R_knows_162 : decode b_R_knows 162 = .ok (.iaload, 1) := by decide +kernel
theorem d_R_knows_163 : decode b_R_knows 163 = .ok (.invokevirtual 173, 3) := by decide +kernel
theorem d_R_knows_166 : decode b_R_knows 166 = .ok (.invokevirtual 169, 3) := by decide +kernel
theorem d_R_knows_169 : decode b_R_knows 169 = .ok (.ifCond .eq 7, 3) := by decide +kernel
theorem d_R_knows_172 : decode b_R_knows 172 = .ok (.iconst 1, 1) := by decide +kernel
theorem d_R_knows_173 : decode b_R_knows 173 = .ok (.goto 4, 3) := by decide +kernel
theorem d_R_knows_176 : decode b_R_knows 176 = .ok (.iconst 0, 1) := by decide +kernel
theorem d_R_knows_177 : decode b_R_knows 177 = .ok (.ireturn, 1) := by decide +kernel
theorem d_R_ways_0 : decode b_R_ways 0 = .ok (.aload_n 0, 1) := by decide +kernel
theorem d_R_ways_1 : decode b_R_ways 1 = .ok (.getfield 25, 3) := by decide +kernel
theorem d_R_ways_4 : decode b_R_ways 4 = .ok (.iload_n 1, 1) := by decide +kernel
theorem d_R_ways_5 : decode b_R_ways 5 = .ok (.iaload, 1) := by decide +kernel
theorem d_R_ways_6 : decode b_R_ways 6 = .ok (.iconst 2, 1) := by decide +kernel
theorem d_R_ways_7 : decode b_R_ways 7 = .ok (.if_icmp .ge 9, 3) := by decide +kernel
theorem d_R_ways_10 : decode b_R_ways 10 = .ok (.aload_n 0, 1) := by decide +kernel
theorem d_R_ways_11 : decode b_R_ways 11 = .ok (.iload_n 1, 1) := by decide +kernel
theorem d_R_ways_12 : decode b_R_ways 12 = .ok (.invokevirtual 142, 3) := by decide +kernel
theorem d_R_ways_15 : decode b_R_ways 15 = .ok (.ireturn, 1) := by decide +kernel
theorem d_R_ways_16 : decode b_R_ways 16 = .ok (.aload_n 0, 1) := by decide +kernel
theorem d_R_ways_17 : decode b_R_ways 17 = .ok (.getfield 67, 3) := by decide +kernel
theorem d_R_ways_20 : decode b_R_ways 20 = .ok (.iload_n 1, 1) := by decide +kernel
theorem d_R_ways_21 : decode b_R_ways 21 = .ok (.iaload, 1) := by decide +kernel
theorem d_R_ways_22 : decode b_R_ways 22 = .ok (.istore_n 2, 1) := by decide +kernel
theorem d_R_ways_23 : decode b_R_ways 23 = .ok (.aload_n 0, 1) := by decide +kernel
theorem d_R_ways_24 : decode b_R_ways 24 = .ok (.getfield 79, 3) := by decide +kernel
theorem d_R_ways_27 : decode b_R_ways 27 = .ok (.iload_n 2, 1) := by decide +kernel
theorem d_R_ways_28 : decode b_R_ways 28 = .ok (.iaload, 1) := by decide +kernel
theorem d_R_ways_29 : decode b_R_ways 29 = .ok (.ifCond .ne 5, 3) := by decide +kernel
theorem d_R_ways_32 : decode b_R_ways 32 = .ok (.iconst 0, 1) := by decide +kernel
theorem d_R_ways_33 : decode b_R_ways 33 = .ok (.ireturn, 1) := by decide +kernel
theorem d_R_ways_34 : decode b_R_ways 34 = .ok (.aload_n 0, 1) := by decide +kernel
theorem d_R_ways_35 : decode b_R_ways 35 = .ok (.getfield 79, 3) := by decide +kernel
theorem d_R_ways_38 : decode b_R_ways 38 = .ok (.iload_n 2, 1) := by decide +kernel
theorem d_R_ways_39 : decode b_R_ways 39 = .ok (.iaload, 1) := by decide +kernel
theorem d_R_ways_40 : decode b_R_ways 40 = .ok (.iconst 2, 1) := by decide +kernel
theorem d_R_ways_41 : decode b_R_ways 41 = .ok (.if_icmp .ne 11, 3) := by decide +kernel
theorem d_R_ways_44 : decode b_R_ways 44 = .ok (.aload_n 0, 1) := by decide +kernel
theorem d_R_ways_45 : decode b_R_ways 45 = .ok (.iload_n 1, 1) := by decide +kernel
theorem d_R_ways_46 : decode b_R_ways 46 = .ok (.invokevirtual 142, 3) := by decide +kernel
theorem d_R_ways_49 : decode b_R_ways 49 = .ok (.goto 29, 3) := by decide +kernel
theorem d_R_ways_52 : decode b_R_ways 52 = .ok (.iconst 1, 1) := by decide +kernel
theorem d_R_ways_53 : decode b_R_ways 53 = .ok (.aload_n 0, 1) := by decide +kernel
theorem d_R_ways_54 : decode b_R_ways 54 = .ok (.getfield 82, 3) := by decide +kernel
theorem d_R_ways_57 : decode b_R_ways 57 = .ok (.iload_n 2, 1) := by decide +kernel
theorem d_R_ways_58 : decode b_R_ways 58 = .ok (.iaload, 1) := by decide +kernel
theorem d_R_ways_59 : decode b_R_ways 59 = .ok (.ifCond .eq 12, 3) := by decide +kernel
theorem d_R_ways_62 : decode b_R_ways 62 = .ok (.aload_n 0, 1) := by decide +kernel
theorem d_R_ways_63 : decode b_R_ways 63 = .ok (.getfield 31, 3) := by decide +kernel
theorem d_R_ways_66 : decode b_R_ways 66 = .ok (.iload_n 1, 1) := by decide +kernel
theorem d_R_ways_67 : decode b_R_ways 67 = .ok (.iaload, 1) := by decide +kernel
theorem d_R_ways_68 : decode b_R_ways 68 = .ok (.goto 9, 3) := by decide +kernel
theorem d_R_ways_71 : decode b_R_ways 71 = .ok (.aload_n 0, 1) := by decide +kernel
theorem d_R_ways_72 : decode b_R_ways 72 = .ok (.getfield 34, 3) := by decide +kernel
theorem d_R_ways_75 : decode b_R_ways 75 = .ok (.iload_n 1, 1) := by decide +kernel
theorem d_R_ways_76 : decode b_R_ways 76 = .ok (.iaload, 1) := by decide +kernel
theorem d_R_ways_77 : decode b_R_ways 77 = .ok (.ishl, 1) := by decide +kernel
theorem d_R_ways_78 : decode b_R_ways 78 = .ok (.ireturn, 1) := by decide +kernel
theorem d_R_pass_0 : decode b_R_pass 0 = .ok (.iconst 0, 1) := by decide +kernel
theorem d_R_pass_1 : decode b_R_pass 1 = .ok (.istore_n 1, 1) := by decide +kernel
theorem d_R_pass_2 : decode b_R_pass 2 = .ok (.iconst 0, 1) := by decide +kernel
theorem d_R_pass_3 : decode b_R_pass 3 = .ok (.istore_n 2, 1) := by decide +kernel
theorem d_R_pass_4 : decode b_R_pass 4 = .ok (.iload_n 2, 1) := by decide +kernel
theorem d_R_pass_5 : decode b_R_pass 5 = .ok (.aload_n 0, 1) := by decide +kernel
theorem d_R_pass_6 : decode b_R_pass 6 = .ok (.getfield 105, 3) := by decide +kernel
theorem d_R_pass_9 : decode b_R_pass 9 = .ok (.if_icmp .ge 164, 3) := by decide +kernel
theorem d_R_pass_12 : decode b_R_pass 12 = .ok (.aload_n 0, 1) := by decide +kernel
theorem d_R_pass_13 : decode b_R_pass 13 = .ok (.getfield 166, 3) := by decide +kernel
theorem d_R_pass_16 : decode b_R_pass 16 = .ok (.iload_n 2, 1) := by decide +kernel
theorem d_R_pass_17 : decode b_R_pass 17 = .ok (.invokestatic 138, 3) := by decide +kernel
theorem d_R_pass_20 : decode b_R_pass 20 = .ok (.ifCond .ne 6, 3) := by decide +kernel
theorem d_R_pass_23 : decode b_R_pass 23 = .ok (.goto 144, 3) := by decide +kernel
theorem d_R_pass_26 : decode b_R_pass 26 = .ok (.iconst 0, 1) := by decide +kernel
theorem d_R_pass_27 : decode b_R_pass 27 = .ok (.istore_n 3, 1) := by decide +kernel
theorem d_R_pass_28 : decode b_R_pass 28 = .ok (.iload_n 3, 1) := by decide +kernel
theorem d_R_pass_29 : decode b_R_pass 29 = .ok (.bipush 6, 2) := by decide +kernel
theorem d_R_pass_31 : decode b_R_pass 31 = .ok (.if_icmp .ge 44, 3) := by decide +kernel
theorem d_R_pass_34 : decode b_R_pass 34 = .ok (.aload_n 0, 1) := by decide +kernel
theorem d_R_pass_35 : decode b_R_pass 35 = .ok (.getfield 46, 3) := by decide +kernel
theorem d_R_pass_38 : decode b_R_pass 38 = .ok (.iload_n 2, 1) := by decide +kernel
theorem d_R_pass_39 : decode b_R_pass 39 = .ok (.iaload, 1) := by decide +kernel
theorem d_R_pass_40 : decode b_R_pass 40 = .ok (.iload_n 3, 1) := by decide +kernel
theorem d_R_pass_41 : decode b_R_pass 41 = .ok (.invokestatic 138, 3) := by decide +kernel
theorem d_R_pass_44 : decode b_R_pass 44 = .ok (.ifCond .eq 25, 3) := by decide +kernel
theorem d_R_pass_47 : decode b_R_pass 47 = .ok (.aload_n 0, 1) := by decide +kernel
theorem d_R_pass_48 : decode b_R_pass 48 = .ok (.aload_n 0, 1) := by decide +kernel
theorem d_R_pass_49 : decode b_R_pass 49 = .ok (.getfield 55, 3) := by decide +kernel
theorem d_R_pass_52 : decode b_R_pass 52 = .ok (.bipush 6, 2) := by decide +kernel
theorem d_R_pass_54 : decode b_R_pass 54 = .ok (.iload_n 2, 1) := by decide +kernel
theorem d_R_pass_55 : decode b_R_pass 55 = .ok (.imul, 1) := by decide +kernel
theorem d_R_pass_56 : decode b_R_pass 56 = .ok (.iload_n 3, 1) := by decide +kernel
theorem d_R_pass_57 : decode b_R_pass 57 = .ok (.iadd, 1) := by decide +kernel
theorem d_R_pass_58 : decode b_R_pass 58 = .ok (.iaload, 1) := by decide +kernel
theorem d_R_pass_59 : decode b_R_pass 59 = .ok (.iload_n 2, 1) := by decide +kernel
theorem d_R_pass_60 : decode b_R_pass 60 = .ok (.iload_n 3, 1) := by decide +kernel
theorem d_R_pass_61 : decode b_R_pass 61 = .ok (.invokevirtual 177, 3) := by decide +kernel
theorem d_R_pass_64 : decode b_R_pass 64 = .ok (.ifCond .eq 5, 3) := by decide +kernel
theorem d_R_pass_67 : decode b_R_pass 67 = .ok (.iconst 1, 1) := by decide +kernel
theorem d_R_pass_68 : decode b_R_pass 68 = .ok (.istore_n 1, 1) := by decide +kernel
theorem d_R_pass_69 : decode b_R_pass 69 = .ok (.iinc 3 1, 3) := by decide +kernel
theorem d_R_pass_72 : decode b_R_pass 72 = .ok (.goto (-44), 3) := by decide +kernel
theorem d_R_pass_75 : decode b_R_pass 75 = .ok (.bipush 6, 2) := by decide +kernel
theorem d_R_pass_77 : decode b_R_pass 77 = .ok (.iload_n 2, 1) := by decide +kernel
theorem d_R_pass_78 : decode b_R_pass 78 = .ok (.imul, 1) := by decide +kernel
theorem d_R_pass_79 : decode b_R_pass 79 = .ok (.istore_n 3, 1) := by decide +kernel
theorem d_R_pass_80 : decode b_R_pass 80 = .ok (.iload_n 3, 1) := by decide +kernel
theorem d_R_pass_81 : decode b_R_pass 81 = .ok (.bipush 6, 2) := by decide +kernel
theorem d_R_pass_83 : decode b_R_pass 83 = .ok (.iload_n 2, 1) := by decide +kernel
theorem d_R_pass_84 : decode b_R_pass 84 = .ok (.imul, 1) := by decide +kernel
theorem d_R_pass_85 : decode b_R_pass 85 = .ok (.aload_n 0, 1) := by decide +kernel
theorem d_R_pass_86 : decode b_R_pass 86 = .ok (.getfield 7, 3) := by decide +kernel
theorem d_R_pass_89 : decode b_R_pass 89 = .ok (.iload_n 2, 1) := by decide +kernel
theorem d_R_pass_90 : decode b_R_pass 90 = .ok (.iaload, 1) := by decide +kernel
theorem d_R_pass_91 : decode b_R_pass 91 = .ok (.iadd, 1) := by decide +kernel
theorem d_R_pass_92 : decode b_R_pass 92 = .ok (.if_icmp .ge 19, 3) := by decide +kernel
theorem d_R_pass_95 : decode b_R_pass 95 = .ok (.aload_n 0, 1) := by decide +kernel
theorem d_R_pass_96 : decode b_R_pass 96 = .ok (.iload_n 3, 1) := by decide +kernel
theorem d_R_pass_97 : decode b_R_pass 97 = .ok (.invokevirtual 180, 3) := by decide +kernel
theorem d_R_pass_100 : decode b_R_pass 100 = .ok (.ifCond .eq 5, 3) := by decide +kernel
theorem d_R_pass_103 : decode b_R_pass 103 = .ok (.iconst 1, 1) := by decide +kernel
theorem d_R_pass_104 : decode b_R_pass 104 = .ok (.istore_n 1, 1) := by decide +kernel
theorem d_R_pass_105 : decode b_R_pass 105 = .ok (.iinc 3 1, 3) := by decide +kernel
theorem d_R_pass_108 : decode b_R_pass 108 = .ok (.goto (-28), 3) := by decide +kernel
theorem d_R_pass_111 : decode b_R_pass 111 = .ok (.aload_n 0, 1) := by decide +kernel
theorem d_R_pass_112 : decode b_R_pass 112 = .ok (.iload_n 2, 1) := by decide +kernel
theorem d_R_pass_113 : decode b_R_pass 113 = .ok (.invokevirtual 183, 3) := by decide +kernel
theorem d_R_pass_116 : decode b_R_pass 116 = .ok (.istore_n 3, 1) := by decide +kernel
theorem d_R_pass_117 : decode b_R_pass 117 = .ok (.iload_n 1, 1) := by decide +kernel
theorem d_R_pass_118 : decode b_R_pass 118 = .ok (.ifCond .ne 26, 3) := by decide +kernel
theorem d_R_pass_121 : decode b_R_pass 121 = .ok (.iload_n 3, 1) := by decide +kernel
theorem d_R_pass_122 : decode b_R_pass 122 = .ok (.aload_n 0, 1) := by decide +kernel
theorem d_R_pass_123 : decode b_R_pass 123 = .ok (.getfield 76, 3) := by decide +kernel
theorem d_R_pass_126 : decode b_R_pass 126 = .ok (.iload_n 2, 1) := by decide +kernel
theorem d_R_pass_127 : decode b_R_pass 127 = .ok (.iaload, 1) := by decide +kernel
theorem d_R_pass_128 : decode b_R_pass 128 = .ok (.if_icmp .ne 16, 3) := by decide +kernel
theorem d_R_pass_131 : decode b_R_pass 131 = .ok (.aload_n 0, 1) := by decide +kernel
theorem d_R_pass_132 : decode b_R_pass 132 = .ok (.getfield 166, 3) := by decide +kernel
theorem d_R_pass_135 : decode b_R_pass 135 = .ok (.iload_n 3, 1) := by decide +kernel
theorem d_R_pass_136 : decode b_R_pass 136 = .ok (.ior, 1) := by decide +kernel
theorem d_R_pass_137 : decode b_R_pass 137 = .ok (.aload_n 0, 1) := by decide +kernel
theorem d_R_pass_138 : decode b_R_pass 138 = .ok (.getfield 166, 3) := by decide +kernel
theorem d_R_pass_141 : decode b_R_pass 141 = .ok (.if_icmp .eq 7, 3) := by decide +kernel
theorem d_R_pass_144 : decode b_R_pass 144 = .ok (.iconst 1, 1) := by decide +kernel
theorem d_R_pass_145 : decode b_R_pass 145 = .ok (.goto 4, 3) := by decide +kernel
theorem d_R_pass_148 : decode b_R_pass 148 = .ok (.iconst 0, 1) := by decide +kernel
theorem d_R_pass_149 : decode b_R_pass 149 = .ok (.istore_n 1, 1) := by decide +kernel
theorem d_R_pass_150 : decode b_R_pass 150 = .ok (.aload_n 0, 1) := by decide +kernel
theorem d_R_pass_151 : decode b_R_pass 151 = .ok (.getfield 76, 3) := by decide +kernel
theorem d_R_pass_154 : decode b_R_pass 154 = .ok (.iload_n 2, 1) := by decide +kernel
theorem d_R_pass_155 : decode b_R_pass 155 = .ok (.iload_n 3, 1) := by decide +kernel
theorem d_R_pass_156 : decode b_R_pass 156 = .ok (.iastore, 1) := by decide +kernel
theorem d_R_pass_157 : decode b_R_pass 157 = .ok (.aload_n 0, 1) := by decide +kernel
theorem d_R_pass_158 : decode b_R_pass 158 = .ok (.dup, 1) := by decide +kernel
theorem d_R_pass_159 : decode b_R_pass 159 = .ok (.getfield 166, 3) := by decide +kernel
theorem d_R_pass_162 : decode b_R_pass 162 = .ok (.iload_n 3, 1) := by decide +kernel
theorem d_R_pass_163 : decode b_R_pass 163 = .ok (.ior, 1) := by decide +kernel
theorem d_R_pass_164 : decode b_R_pass 164 = .ok (.putfield 166, 3) := by decide +kernel
theorem d_R_pass_167 : decode b_R_pass 167 = .ok (.iinc 2 1, 3) := by decide +kernel
theorem d_R_pass_170 : decode b_R_pass 170 = .ok (.goto (-166), 3) := by decide +kernel
theorem d_R_pass_173 : decode b_R_pass 173 = .ok (.iload_n 1, 1) := by decide +kernel
theorem d_R_pass_174 : decode b_R_pass 174 = .ok (.ireturn, 1) := by decide +kernel
theorem d_R_findKnown_0 : decode b_R_findKnown 0 = .ok (.aload_n 0, 1) := by decide +kernel
theorem d_R_findKnown_1 : decode b_R_findKnown 1 = .ok (.iconst 1, 1) := by decide +kernel
theorem d_R_findKnown_2 : decode b_R_findKnown 2 = .ok (.putfield 166, 3) := by decide +kernel
theorem d_R_findKnown_5 : decode b_R_findKnown 5 = .ok (.iconst 0, 1) := by decide +kernel
theorem d_R_findKnown_6 : decode b_R_findKnown 6 = .ok (.istore_n 1, 1) := by decide +kernel
theorem d_R_findKnown_7 : decode b_R_findKnown 7 = .ok (.iload_n 1, 1) := by decide +kernel
theorem d_R_findKnown_8 : decode b_R_findKnown 8 = .ok (.bipush 10, 2) := by decide +kernel
theorem d_R_findKnown_10 : decode b_R_findKnown 10 = .ok (.if_icmp .ge 16, 3) := by decide +kernel
theorem d_R_findKnown_13 : decode b_R_findKnown 13 = .ok (.aload_n 0, 1) := by decide +kernel
theorem d_R_findKnown_14 : decode b_R_findKnown 14 = .ok (.getfield 76, 3) := by decide +kernel
theorem d_R_findKnown_17 : decode b_R_findKnown 17 = .ok (.iload_n 1, 1) := by decide +kernel
theorem d_R_findKnown_18 : decode b_R_findKnown 18 = .ok (.iconst 0, 1) := by decide +kernel
theorem d_R_findKnown_19 : decode b_R_findKnown 19 = .ok (.iastore, 1) := by decide +kernel
theorem d_R_findKnown_20 : decode b_R_findKnown 20 = .ok (.iinc 1 1, 3) := by decide +kernel
theorem d_R_findKnown_23 : decode b_R_findKnown 23 = .ok (.goto (-16), 3) := by decide +kernel
theorem d_R_findKnown_26 : decode b_R_findKnown 26 = .ok (.iconst 0, 1) := by decide +kernel
theorem d_R_findKnown_27 : decode b_R_findKnown 27 = .ok (.istore_n 1, 1) := by decide +kernel
theorem d_R_findKnown_28 : decode b_R_findKnown 28 = .ok (.iload_n 1, 1) := by decide +kernel
theorem d_R_findKnown_29 : decode b_R_findKnown 29 = .ok (.sipush 130, 3) := by decide +kernel
theorem d_R_findKnown_32 : decode b_R_findKnown 32 = .ok (.if_icmp .ge 40, 3) := by decide +kernel
theorem d_R_findKnown_35 : decode b_R_findKnown 35 = .ok (.aload_n 0, 1) := by decide +kernel
theorem d_R_findKnown_36 : decode b_R_findKnown 36 = .ok (.getfield 79, 3) := by decide +kernel
theorem d_R_findKnown_39 : decode b_R_findKnown 39 = .ok (.iload_n 1, 1) := by decide +kernel
theorem d_R_findKnown_40 : decode b_R_findKnown 40 = .ok (.iload_n 1, 1) := by decide +kernel
theorem d_R_findKnown_41 : decode b_R_findKnown 41 = .ok (.bipush 6, 2) := by decide +kernel
theorem d_R_findKnown_43 : decode b_R_findKnown 43 = .ok (.if_icmp .ge 7, 3) := by decide +kernel
theorem d_R_findKnown_46 : decode b_R_findKnown 46 = .ok (.iconst 1, 1) := by decide +kernel
theorem d_R_findKnown_47 : decode b_R_findKnown 47 = .ok (.goto 4, 3) := by decide +kernel
theorem d_R_findKnown_50 : decode b_R_findKnown 50 = .ok (.iconst 0, 1) := by decide +kernel
theorem d_R_findKnown_51 : decode b_R_findKnown 51 = .ok (.iastore, 1) := by decide +kernel
theorem d_R_findKnown_52 : decode b_R_findKnown 52 = .ok (.aload_n 0, 1) := by decide +kernel
theorem d_R_findKnown_53 : decode b_R_findKnown 53 = .ok (.getfield 82, 3) := by decide +kernel
theorem d_R_findKnown_56 : decode b_R_findKnown 56 = .ok (.iload_n 1, 1) := by decide +kernel
theorem d_R_findKnown_57 : decode b_R_findKnown 57 = .ok (.iconst 0, 1) := by decide +kernel
theorem d_R_findKnown_58 : decode b_R_findKnown 58 = .ok (.iastore, 1) := by decide +kernel
theorem d_R_findKnown_59 : decode b_R_findKnown 59 = .ok (.aload_n 0, 1) := by decide +kernel
theorem d_R_findKnown_60 : decode b_R_findKnown 60 = .ok (.getfield 85, 3) := by decide +kernel
theorem d_R_findKnown_63 : decode b_R_findKnown 63 = .ok (.iload_n 1, 1) := by decide +kernel
theorem d_R_findKnown_64 : decode b_R_findKnown 64 = .ok (.iconst 0, 1) := by decide +kernel
theorem d_R_findKnown_65 : decode b_R_findKnown 65 = .ok (.bastore, 1) := by decide +kernel
theorem d_R_findKnown_66 : decode b_R_findKnown 66 = .ok (.iinc 1 1, 3) := by decide +kernel
theorem d_R_findKnown_69 : decode b_R_findKnown 69 = .ok (.goto (-41), 3) := by decide +kernel
theorem d_R_findKnown_72 : decode b_R_findKnown 72 = .ok (.iconst 1, 1) := by decide +kernel
theorem d_R_findKnown_73 : decode b_R_findKnown 73 = .ok (.istore_n 1, 1) := by decide +kernel
theorem d_R_findKnown_74 : decode b_R_findKnown 74 = .ok (.iload_n 1, 1) := by decide +kernel
theorem d_R_findKnown_75 : decode b_R_findKnown 75 = .ok (.ifCond .eq 11, 3) := by decide +kernel
theorem d_R_findKnown_78 : decode b_R_findKnown 78 = .ok (.aload_n 0, 1) := by decide +kernel
theorem d_R_findKnown_79 : decode b_R_findKnown 79 = .ok (.invokevirtual 186, 3) := by decide +kernel
theorem d_R_findKnown_82 : decode b_R_findKnown 82 = .ok (.istore_n 1, 1) := by decide +kernel
theorem d_R_findKnown_83 : decode b_R_findKnown 83 = .ok (.goto (-9), 3) := by decide +kernel
theorem d_R_findKnown_86 : decode b_R_findKnown 86 = .ok (.return_, 1) := by decide +kernel
theorem d_R_needs_0 : decode b_R_needs 0 = .ok (.iload_n 1, 1) := by decide +kernel
theorem d_R_needs_1 : decode b_R_needs 1 = .ok (.ifCond .lt 16, 3) := by decide +kernel
theorem d_R_needs_4 : decode b_R_needs 4 = .ok (.aload_n 0, 1) := by decide +kernel
theorem d_R_needs_5 : decode b_R_needs 5 = .ok (.getfield 85, 3) := by decide +kernel
theorem d_R_needs_8 : decode b_R_needs 8 = .ok (.iload_n 1, 1) := by decide +kernel
theorem d_R_needs_9 : decode b_R_needs 9 = .ok (.baload, 1) := by decide +kernel
theorem d_R_needs_10 : decode b_R_needs 10 = .ok (.ifCond .ne 7, 3) := by decide +kernel
theorem d_R_needs_13 : decode b_R_needs 13 = .ok (.iconst 1, 1) := by decide +kernel
theorem d_R_needs_14 : decode b_R_needs 14 = .ok (.goto 4, 3) := by decide +kernel
theorem d_R_needs_17 : decode b_R_needs 17 = .ok (.iconst 0, 1) := by decide +kernel
theorem d_R_needs_18 : decode b_R_needs 18 = .ok (.istore_n 2, 1) := by decide +kernel
theorem d_R_needs_19 : decode b_R_needs 19 = .ok (.iload_n 2, 1) := by decide +kernel
theorem d_R_needs_20 : decode b_R_needs 20 = .ok (.ifCond .eq 10, 3) := by decide +kernel
theorem d_R_needs_23 : decode b_R_needs 23 = .ok (.aload_n 0, 1) := by decide +kernel
theorem d_R_needs_24 : decode b_R_needs 24 = .ok (.getfield 85, 3) := by decide +kernel
theorem d_R_needs_27 : decode b_R_needs 27 = .ok (.iload_n 1, 1) := by decide +kernel
theorem d_R_needs_28 : decode b_R_needs 28 = .ok (.iconst 1, 1) := by decide +kernel
theorem d_R_needs_29 : decode b_R_needs 29 = .ok (.bastore, 1) := by decide +kernel
theorem d_R_needs_30 : decode b_R_needs 30 = .ok (.iload_n 2, 1) := by decide +kernel
theorem d_R_needs_31 : decode b_R_needs 31 = .ok (.ireturn, 1) := by decide +kernel
theorem d_R_needsParts_0 : decode b_R_needsParts 0 = .ok (.iload_n 1, 1) := by decide +kernel
theorem d_R_needsParts_1 : decode b_R_needsParts 1 = .ok (.bipush 6, 2) := by decide +kernel
theorem d_R_needsParts_3 : decode b_R_needsParts 3 = .ok (.if_icmp .lt 22, 3) := by decide +kernel
theorem d_R_needsParts_6 : decode b_R_needsParts 6 = .ok (.aload_n 0, 1) := by decide +kernel
theorem d_R_needsParts_7 : decode b_R_needsParts 7 = .ok (.getfield 85, 3) := by decide +kernel
theorem d_R_needsParts_10 : decode b_R_needsParts 10 = .ok (.iload_n 1, 1) := by decide +kernel
theorem d_R_needsParts_11 : decode b_R_needsParts 11 = .ok (.baload, 1) := by decide +kernel
theorem d_R_needsParts_12 : decode b_R_needsParts 12 = .ok (.ifCond .eq 13, 3) := by decide +kernel
theorem d_R_needsParts_15 : decode b_R_needsParts 15 = .ok (.aload_n 0, 1) := by decide +kernel
theorem d_R_needsParts_16 : decode b_R_needsParts 16 = .ok (.getfield 79, 3) := by decide +kernel
theorem d_R_needsParts_19 : decode b_R_needsParts 19 = .ok (.iload_n 1, 1) := by decide +kernel
theorem d_R_needsParts_20 : decode b_R_needsParts 20 = .ok (.iaload, 1) := by decide +kernel
theorem d_R_needsParts_21 : decode b_R_needsParts 21 = .ok (.iconst 1, 1) := by decide +kernel
theorem d_R_needsParts_22 : decode b_R_needsParts 22 = .ok (.if_icmp .ne 5, 3) := by decide +kernel
theorem d_R_needsParts_25 : decode b_R_needsParts 25 = .ok (.iconst 0, 1) := by decide +kernel
theorem d_R_needsParts_26 : decode b_R_needsParts 26 = .ok (.ireturn, 1) := by decide +kernel
theorem d_R_needsParts_27 : decode b_R_needsParts 27 = .ok (.aload_n 0, 1) := by decide +kernel
theorem d_R_needsParts_28 : decode b_R_needsParts 28 = .ok (.getfield 52, 3) := by decide +kernel
theorem d_R_needsParts_31 : decode b_R_needsParts 31 = .ok (.iload_n 1, 1) := by decide +kernel
theorem d_R_needsParts_32 : decode b_R_needsParts 32 = .ok (.iaload, 1) := by decide +kernel
theorem d_R_needsParts_33 : decode b_R_needsParts 33 = .ok (.istore_n 2, 1) := by decide +kernel
theorem d_R_needsParts_34 : decode b_R_needsParts 34 = .ok (.iconst 0, 1) := by decide +kernel
theorem d_R_needsParts_35 : decode b_R_needsParts 35 = .ok (.istore_n 3, 1) := by decide +kernel
theorem d_R_needsParts_36 : decode b_R_needsParts 36 = .ok (.iload_n 2, 1) := by decide +kernel
theorem d_R_needsParts_37 : decode b_R_needsParts 37 = .ok (.ifCond .lt 37, 3) := by decide +kernel
theorem d_R_needsParts_40 : decode b_R_needsParts 40 = .ok (.aload_n 0, 1) := by decide +kernel
theorem d_R_needsParts_41 : decode b_R_needsParts 41 = .ok (.aload_n 0, 1) := by decide +kernel
theorem d_R_needsParts_42 : decode b_R_needsParts 42 = .ok (.getfield 61, 3) := by decide +kernel
theorem d_R_needsParts_45 : decode b_R_needsParts 45 = .ok (.iload_n 2, 1) := by decide +kernel
theorem d_R_needsParts_46 : decode b_R_needsParts 46 = .ok (.iaload, 1) := by decide +kernel
theorem d_R_needsParts_47 : decode b_R_needsParts 47 = .ok (.invokevirtual 190, 3) := by decide +kernel
theorem d_R_needsParts_50 : decode b_R_needsParts 50 = .ok (.istore_n 3, 1) := by decide +kernel
theorem d_R_needsParts_51 : decode b_R_needsParts 51 = .ok (.aload_n 0, 1) := by decide +kernel
theorem d_R_needsParts_52 : decode b_R_needsParts 52 = .ok (.aload_n 0, 1) := by decide +kernel
theorem d_R_needsParts_53 : decode b_R_needsParts 53 = .ok (.getfield 64, 3) := by decide +kernel
theorem d_R_needsParts_56 : decode b_R_needsParts 56 = .ok (.iload_n 2, 1) := by decide +kernel
theorem d_R_needsParts_57 : decode b_R_needsParts 57 = .ok (.iaload, 1) := by decide +kernel
theorem d_R_needsParts_58 : decode b_R_needsParts 58 = .ok (.invokevirtual 190, 3) := by decide +kernel
theorem d_R_needsParts_61 : decode b_R_needsParts 61 = .ok (.ifCond .ne 7, 3) := by decide +kernel
theorem d_R_needsParts_64 : decode b_R_needsParts 64 = .ok (.iload_n 3, 1) := by decide +kernel
theorem d_R_needsParts_65 : decode b_R_needsParts 65 = .ok (.ifCond .eq 7, 3) := by decide +kernel
theorem d_R_needsParts_68 : decode b_R_needsParts 68 = .ok (.iconst 1, 1) := by decide +kernel
theorem d_R_needsParts_69 : decode b_R_needsParts 69 = .ok (.goto 4, 3) := by decide +kernel
theorem d_R_needsParts_72 : decode b_R_needsParts 72 = .ok (.iconst 0, 1) := by decide +kernel
theorem d_R_needsParts_73 : decode b_R_needsParts 73 = .ok (.ireturn, 1) := by decide +kernel
theorem d_R_needsParts_74 : decode b_R_needsParts 74 = .ok (.iconst (-1), 1) := by decide +kernel
theorem d_R_needsParts_75 : decode b_R_needsParts 75 = .ok (.iload_n 2, 1) := by decide +kernel
theorem d_R_needsParts_76 : decode b_R_needsParts 76 = .ok (.isub, 1) := by decide +kernel
theorem d_R_needsParts_77 : decode b_R_needsParts 77 = .ok (.bipush 6, 2) := by decide +kernel
theorem d_R_needsParts_79 : decode b_R_needsParts 79 = .ok (.idiv, 1) := by decide +kernel
theorem d_R_needsParts_80 : decode b_R_needsParts 80 = .ok (.istore 4, 2) := by decide +kernel
theorem d_R_needsParts_82 : decode b_R_needsParts 82 = .ok (.iconst (-1), 1) := by decide +kernel
theorem d_R_needsParts_83 : decode b_R_needsParts 83 = .ok (.iload_n 2, 1) := by decide +kernel
theorem d_R_needsParts_84 : decode b_R_needsParts 84 = .ok (.isub, 1) := by decide +kernel
theorem d_R_needsParts_85 : decode b_R_needsParts 85 = .ok (.bipush 6, 2) := by decide +kernel
theorem d_R_needsParts_87 : decode b_R_needsParts 87 = .ok (.irem, 1) := by decide +kernel
theorem d_R_needsParts_88 : decode b_R_needsParts 88 = .ok (.istore 5, 2) := by decide +kernel
theorem d_R_needsParts_90 : decode b_R_needsParts 90 = .ok (.iconst 0, 1) := by decide +kernel
theorem d_R_needsParts_91 : decode b_R_needsParts 91 = .ok (.istore 6, 2) := by decide +kernel
theorem d_R_needsParts_93 : decode b_R_needsParts 93 = .ok (.iload 6, 2) := by decide +kernel
theorem d_R_needsParts_95 : decode b_R_needsParts 95 = .ok (.aload_n 0, 1) := by decide +kernel
theorem d_R_needsParts_96 : decode b_R_needsParts 96 = .ok (.getfield 105, 3) := by decide +kernel
theorem d_R_needsParts_99 : decode b_R_needsParts 99 = .ok (.if_icmp .ge 73, 3) := by decide +kernel
theorem d_R_needsParts_102 : decode b_R_needsParts 102 = .ok (.aload_n 0, 1) := by decide +kernel
theorem d_R_needsParts_103 : decode b_R_needsParts 103 = .ok (.getfield 40, 3) := by decide +kernel
theorem d_R_needsParts_106 : decode b_R_needsParts 106 = .ok (.iload 4, 2) := by decide +kernel
theorem d_R_needsParts_108 : decode b_R_needsParts 108 = .ok (.iaload, 1) := by decide +kernel
theorem d_R_needsParts_109 : decode b_R_needsParts 109 = .ok (.iload 6, 2) := by decide +kernel
theorem d_R_needsParts_111 : decode b_R_needsParts 111 = .ok (.invokestatic 138, 3) := by decide +kernel
theorem d_R_needsParts_114 : decode b_R_needsParts 114 = .ok (.ifCond .eq 52, 3) := by decide +kernel
theorem d_R_needsParts_117 : decode b_R_needsParts 117 = .ok (.aload_n 0, 1) := by decide +kernel
theorem d_R_needsParts_118 : decode b_R_needsParts 118 = .ok (.getfield 166, 3) := by decide +kernel
theorem d_R_needsParts_121 : decode b_R_needsParts 121 = .ok (.iload 6, 2) := by decide +kernel
theorem d_R_needsParts_123 : decode b_R_needsParts 123 = .ok (.invokestatic 138, 3) := by decide +kernel
theorem d_R_needsParts_126 : decode b_R_needsParts 126 = .ok (.ifCond .eq 40, 3) := by decide +kernel
theorem d_R_needsParts_129 : decode b_R_needsParts 129 = .ok (.aload_n 0, 1) := by decide +kernel
theorem d_R_needsParts_130 : decode b_R_needsParts 130 = .ok (.getfield 76, 3) := by decide +kernel
theorem d_R_needsParts_133 : decode b_R_needsParts 133 = .ok (.iload 6, 2) := by decide +kernel
theorem d_R_needsParts_135 : decode b_R_needsParts 135 = .ok (.iaload, 1) := by decide +kernel
theorem d_R_needsParts_136 : decode b_R_needsParts 136 = .ok (.iload 4, 2) := by decide +kernel
theorem d_R_needsParts_138 : decode b_R_needsParts 138 = .ok (.invokestatic 138, 3) := by decide +kernel
theorem d_R_needsParts_141 : decode b_R_needsParts 141 = .ok (.ifCond .eq 25, 3) := by decide +kernel
theorem d_R_needsParts_144 : decode b_R_needsParts 144 = .ok (.aload_n 0, 1) := by decide +kernel
theorem d_R_needsParts_145 : decode b_R_needsParts 145 = .ok (.aload_n 0, 1) := by decide +kernel
theorem d_R_needsParts_146 : decode b_R_needsParts 146 = .ok (.getfield 70, 3) := by decide +kernel
theorem d_R_needsParts_149 : decode b_R_needsParts 149 = .ok (.bipush 6, 2) := by decide +kernel
theorem d_R_needsParts_151 : decode b_R_needsParts 151 = .ok (.iload 6, 2) := by decide +kernel
theorem d_R_needsParts_153 : decode b_R_needsParts 153 = .ok (.imul, 1) := by decide +kernel
theorem d_R_needsParts_154 : decode b_R_needsParts 154 = .ok (.iload 5, 2) := by decide +kernel
theorem d_R_needsParts_156 : decode b_R_needsParts 156 = .ok (.iadd, 1) := by decide +kernel
theorem d_R_needsParts_157 : decode b_R_needsParts 157 = .ok (.iaload, 1) := by decide +kernel
theorem d_R_needsParts_158 : decode b_R_needsParts 158 = .ok (.invokevirtual 190, 3) := by decide +kernel
theorem d_R_needsParts_161 : decode b_R_needsParts 161 = .ok (.ifCond .eq 5, 3) := by decide +kernel
theorem d_R_needsParts_164 : decode b_R_needsParts 164 = .ok (.iconst 1, 1) := by decide +kernel
theorem d_R_needsParts_165 : decode b_R_needsParts 165 = .ok (.istore_n 3, 1) := by decide +kernel
theorem d_R_needsParts_166 : decode b_R_needsParts 166 = .ok (.iinc 6 1, 3) := by decide +kernel
theorem d_R_needsParts_169 : decode b_R_needsParts 169 = .ok (.goto (-76), 3) := by decide +kernel
theorem d_R_needsParts_172 : decode b_R_needsParts 172 = .ok (.iload_n 3, 1) := by decide +kernel
theorem d_R_needsParts_173 : decode b_R_needsParts 173 = .ok (.ireturn, 1) := by decide +kernel
theorem d_R_findNeeded_0 : decode b_R_findNeeded 0 = .ok (.iconst 0, 1) := by decide +kernel
theorem d_R_findNeeded_1 : decode b_R_findNeeded 1 = .ok (.istore_n 1, 1) := by decide +kernel
theorem d_R_findNeeded_2 : decode b_R_findNeeded 2 = .ok (.iload_n 1, 1) := by decide +kernel
theorem d_R_findNeeded_3 : decode b_R_findNeeded 3 = .ok (.aload_n 0, 1) := by decide +kernel
theorem d_R_findNeeded_4 : decode b_R_findNeeded 4 = .ok (.getfield 105, 3) := by decide +kernel
theorem d_R_findNeeded_7 : decode b_R_findNeeded 7 = .ok (.if_icmp .ge 129, 3) := by decide +kernel
theorem d_R_findNeeded_10 : decode b_R_findNeeded 10 = .ok (.aload_n 0, 1) := by decide +kernel
theorem d_R_findNeeded_11 : decode b_R_findNeeded 11 = .ok (.getfield 166, 3) := by decide +kernel
theorem d_R_findNeeded_14 : decode b_R_findNeeded 14 = .ok (.iload_n 1, 1) := by decide +kernel
theorem d_R_findNeeded_15 : decode b_R_findNeeded 15 = .ok (.invokestatic 138, 3) := by decide +kernel
theorem d_R_findNeeded_18 : decode b_R_findNeeded 18 = .ok (.ifCond .ne 6, 3) := by decide +kernel
theorem d_R_findNeeded_21 : decode b_R_findNeeded 21 = .ok (.goto 109, 3) := by decide +kernel
theorem d_R_findNeeded_24 : decode b_R_findNeeded 24 = .ok (.bipush 6, 2) := by decide +kernel
theorem d_R_findNeeded_26 : decode b_R_findNeeded 26 = .ok (.iload_n 1, 1) := by decide +kernel
theorem d_R_findNeeded_27 : decode b_R_findNeeded 27 = .ok (.imul, 1) := by decide +kernel
theorem d_R_findNeeded_28 : decode b_R_findNeeded 28 = .ok (.istore_n 2, 1) := by decide +kernel
theorem d_R_findNeeded_29 : decode b_R_findNeeded 29 = .ok (.iload_n 2, 1) := by decide +kernel
theorem d_R_findNeeded_30 : decode b_R_findNeeded 30 = .ok (.bipush 6, 2) := by decide +kernel
theorem d_R_findNeeded_32 : decode b_R_findNeeded 32 = .ok (.iload_n 1, 1) := by decide +kernel
theorem d_R_findNeeded_33 : decode b_R_findNeeded 33 = .ok (.imul, 1) := by decide +kernel
theorem d_R_findNeeded_34 : decode b_R_findNeeded 34 = .ok (.aload_n 0, 1) := by decide +kernel
theorem d_R_findNeeded_35 : decode b_R_findNeeded 35 = .ok (.getfield 7, 3) := by decide +kernel
theorem d_R_findNeeded_38 : decode b_R_findNeeded 38 = .ok (.iload_n 1, 1) := by decide +kernel
theorem d_R_findNeeded_39 : decode b_R_findNeeded 39 = .ok (.iaload, 1) := by decide +kernel
theorem d_R_findNeeded_40 : decode b_R_findNeeded 40 = .ok (.iadd, 1) := by decide +kernel
theorem d_R_findNeeded_41 : decode b_R_findNeeded 41 = .ok (.if_icmp .ge 53, 3) := by decide +kernel
theorem d_R_findNeeded_44 : decode b_R_findNeeded 44 = .ok (.aload_n 0, 1) := by decide +kernel
theorem d_R_findNeeded_45 : decode b_R_findNeeded 45 = .ok (.getfield 13, 3) := by decide +kernel
theorem d_R_findNeeded_48 : decode b_R_findNeeded 48 = .ok (.iload_n 2, 1) := by decide +kernel
theorem d_R_findNeeded_49 : decode b_R_findNeeded 49 = .ok (.iaload, 1) := by decide +kernel
theorem d_R_findNeeded_50 : decode b_R_findNeeded 50 = .ok (.bipush 7, 2) := by decide +kernel
theorem d_R_findNeeded_52 : decode b_R_findNeeded 52 = .ok (.if_icmp .ne 14, 3) := by decide +kernel
theorem d_R_findNeeded_55 : decode b_R_findNeeded 55 = .ok (.aload_n 0, 1) := by decide +kernel
theorem d_R_findNeeded_56 : decode b_R_findNeeded 56 = .ok (.aload_n 0, 1) := by decide +kernel
theorem d_R_findNeeded_57 : decode b_R_findNeeded 57 = .ok (.getfield 61, 3) := by decide +kernel
theorem d_R_findNeeded_60 : decode b_R_findNeeded 60 = .ok (.iload_n 2, 1) := by decide +kernel
theorem d_R_findNeeded_61 : decode b_R_findNeeded 61 = .ok (.iaload, 1) := by decide +kernel
theorem d_R_findNeeded_62 : decode b_R_findNeeded 62 = .ok (.invokevirtual 190, 3) := by decide +kernel
theorem d_R_findNeeded_65 : decode b_R_findNeeded 65 = .ok (.pop, 1) := by decide +kernel
theorem d_R_findNeeded_66 : decode b_R_findNeeded 66 = .ok (.aload_n 0, 1) := by decide +kernel
theorem d_R_findNeeded_67 : decode b_R_findNeeded 67 = .ok (.getfield 13, 3) := by decide +kernel
theorem d_R_findNeeded_70 : decode b_R_findNeeded 70 = .ok (.iload_n 2, 1) := by decide +kernel
theorem d_R_findNeeded_71 : decode b_R_findNeeded 71 = .ok (.iaload, 1) := by decide +kernel
theorem d_R_findNeeded_72 : decode b_R_findNeeded 72 = .ok (.bipush 6, 2) := by decide +kernel
theorem d_R_findNeeded_74 : decode b_R_findNeeded 74 = .ok (.if_icmp .ne 14, 3) := by decide +kernel
theorem d_R_findNeeded_77 : decode b_R_findNeeded 77 = .ok (.aload_n 0, 1) := by decide +kernel
theorem d_R_findNeeded_78 : decode b_R_findNeeded 78 = .ok (.aload_n 0, 1) := by decide +kernel
theorem d_R_findNeeded_79 : decode b_R_findNeeded 79 = .ok (.getfield 58, 3) := by decide +kernel
theorem d_R_findNeeded_82 : decode b_R_findNeeded 82 = .ok (.iload_n 2, 1) := by decide +kernel
theorem d_R_findNeeded_83 : decode b_R_findNeeded 83 = .ok (.iaload, 1) := by decide +kernel
theorem d_R_findNeeded_84 : decode b_R_findNeeded 84 = .ok (.invokevirtual 190, 3) := by decide +kernel
theorem d_R_findNeeded_87 : decode b_R_findNeeded 87 = .ok (.pop, 1) := by decide +kernel
theorem d_R_findNeeded_88 : decode b_R_findNeeded 88 = .ok (.iinc 2 1, 3) := by decide +kernel
theorem d_R_findNeeded_91 : decode b_R_findNeeded 91 = .ok (.goto (-62), 3) := by decide +kernel
theorem d_R_findNeeded_94 : decode b_R_findNeeded 94 = .ok (.aload_n 0, 1) := by decide +kernel
theorem d_R_findNeeded_95 : decode b_R_findNeeded 95 = .ok (.getfield 25, 3) := by decide +kernel
theorem d_R_findNeeded_98 : decode b_R_findNeeded 98 = .ok (.iload_n 1, 1) := by decide +kernel
theorem d_R_findNeeded_99 : decode b_R_findNeeded 99 = .ok (.iaload, 1) := by decide +kernel
theorem d_R_findNeeded_100 : decode b_R_findNeeded 100 = .ok (.iconst 2, 1) := by decide +kernel
theorem d_R_findNeeded_101 : decode b_R_findNeeded 101 = .ok (.if_icmp .ne 29, 3) := by decide +kernel
theorem d_R_findNeeded_104 : decode b_R_findNeeded 104 = .ok (.aload_n 0, 1) := by decide +kernel
theorem d_R_findNeeded_105 : decode b_R_findNeeded 105 = .ok (.getfield 79, 3) := by decide +kernel
theorem d_R_findNeeded_108 : decode b_R_findNeeded 108 = .ok (.aload_n 0, 1) := by decide +kernel
theorem d_R_findNeeded_109 : decode b_R_findNeeded 109 = .ok (.getfield 67, 3) := by decide +kernel
theorem d_R_findNeeded_112 : decode b_R_findNeeded 112 = .ok (.iload_n 1, 1) := by decide +kernel
theorem d_R_findNeeded_113 : decode b_R_findNeeded 113 = .ok (.iaload, 1) := by decide +kernel
theorem d_R_findNeeded_114 : decode b_R_findNeeded 114 = .ok (.iaload, 1) := by decide +kernel
theorem d_R_findNeeded_115 : decode b_R_findNeeded 115 = .ok (.iconst 2, 1) := by decide +kernel
theorem d_R_findNeeded_116 : decode b_R_findNeeded 116 = .ok (.if_icmp .ne 14, 3) := by decide +kernel
theorem d_R_findNeeded_119 : decode b_R_findNeeded 119 = .ok (.aload_n 0, 1) := by decide +kernel
theorem d_R_findNeeded_120 : decode b_R_findNeeded 120 = .ok (.aload_n 0, 1) := by decide +kernel
theorem d_R_findNeeded_121 : decode b_R_findNeeded 121 = .ok (.getfield 67, 3) := by decide +kernel
theorem d_R_findNeeded_124 : decode b_R_findNeeded 124 = .ok (.iload_n 1, 1) := by decide +kernel
theorem d_R_findNeeded_125 : decode b_R_findNeeded 125 = .ok (.iaload, 1) := by decide +kernel
theorem d_R_findNeeded_126 : decode b_R_findNeeded 126 = .ok (.invokevirtual 190, 3) := by decide +kernel
theorem d_R_findNeeded_129 : decode b_R_findNeeded 129 = .ok (.pop, 1) := by decide +kernel
theorem d_R_findNeeded_130 : decode b_R_findNeeded 130 = .ok (.iinc 1 1, 3) := by decide +kernel
theorem d_R_findNeeded_133 : decode b_R_findNeeded 133 = .ok (.goto (-131), 3) := by decide +kernel
theorem d_R_findNeeded_136 : decode b_R_findNeeded 136 = .ok (.iconst 1, 1) := by decide +kernel
theorem d_R_findNeeded_137 : decode b_R_findNeeded 137 = .ok (.istore_n 1, 1) := by decide +kernel
theorem d_R_findNeeded_138 : decode b_R_findNeeded 138 = .ok (.iload_n 1, 1) := by decide +kernel
theorem d_R_findNeeded_139 : decode b_R_findNeeded 139 = .ok (.ifCond .eq 43, 3) := by decide +kernel
theorem d_R_findNeeded_142 : decode b_R_findNeeded 142 = .ok (.iconst 0, 1) := by decide +kernel
theorem d_R_findNeeded_143 : decode b_R_findNeeded 143 = .ok (.istore_n 1, 1) := by decide +kernel
theorem d_R_findNeeded_144 : decode b_R_findNeeded 144 = .ok (.bipush 6, 2) := by decide +kernel
theorem d_R_findNeeded_146 : decode b_R_findNeeded 146 = .ok (.istore_n 2, 1) := by decide +kernel
theorem d_R_findNeeded_147 : decode b_R_findNeeded 147 = .ok (.iload_n 2, 1) := by decide +kernel
theorem d_R_findNeeded_148 : decode b_R_findNeeded 148 = .ok (.aload_n 0, 1) := by decide +kernel
theorem d_R_findNeeded_149 : decode b_R_findNeeded 149 = .ok (.getfield 155, 3) := by decide +kernel
theorem d_R_findNeeded_152 : decode b_R_findNeeded 152 = .ok (.if_icmp .ge 27, 3) := by decide +kernel
theorem d_R_findNeeded_155 : decode b_R_findNeeded 155 = .ok (.aload_n 0, 1) := by decide +kernel
theorem d_R_findNeeded_156 : decode b_R_findNeeded 156 = .ok (.iload_n 2, 1) := by decide +kernel
theorem d_R_findNeeded_157 : decode b_R_findNeeded 157 = .ok (.invokevirtual 193, 3) := by decide +kernel
theorem d_R_findNeeded_160 : decode b_R_findNeeded 160 = .ok (.ifCond .ne 7, 3) := by decide +kernel
theorem d_R_findNeeded_163 : decode b_R_findNeeded 163 = .ok (.iload_n 1, 1) := by decide +kernel
theorem d_R_findNeeded_164 : decode b_R_findNeeded 164 = .ok (.ifCond .eq 7, 3) := by decide +kernel
theorem d_R_findNeeded_167 : decode b_R_findNeeded 167 = .ok (.iconst 1, 1) := by decide +kernel
theorem d_R_findNeeded_168 : decode b_R_findNeeded 168 = .ok (.goto 4, 3) := by decide +kernel
theorem d_R_findNeeded_171 : decode b_R_findNeeded 171 = .ok (.iconst 0, 1) := by decide +kernel
theorem d_R_findNeeded_172 : decode b_R_findNeeded 172 = .ok (.istore_n 1, 1) := by decide +kernel
theorem d_R_findNeeded_173 : decode b_R_findNeeded 173 = .ok (.iinc 2 1, 3) := by decide +kernel
theorem d_R_findNeeded_176 : decode b_R_findNeeded 176 = .ok (.goto (-29), 3) := by decide +kernel
theorem d_R_findNeeded_179 : decode b_R_findNeeded 179 = .ok (.goto (-41), 3) := by decide +kernel
theorem d_R_findNeeded_182 : decode b_R_findNeeded 182 = .ok (.return_, 1) := by decide +kernel
theorem d_R_build_0 : decode b_R_build 0 = .ok (.aload_n 0, 1) := by decide +kernel
theorem d_R_build_1 : decode b_R_build 1 = .ok (.aload_n 0, 1) := by decide +kernel
theorem d_R_build_2 : decode b_R_build 2 = .ok (.getfield 105, 3) := by decide +kernel
theorem d_R_build_5 : decode b_R_build 5 = .ok (.ifCond .ne 7, 3) := by decide +kernel
theorem d_R_build_8 : decode b_R_build 8 = .ok (.iconst 1, 1) := by decide +kernel
theorem d_R_build_9 : decode b_R_build 9 = .ok (.goto 4, 3) := by decide +kernel
theorem d_R_build_12 : decode b_R_build 12 = .ok (.iconst 0, 1) := by decide +kernel
theorem d_R_build_13 : decode b_R_build 13 = .ok (.iconst 1, 1) := by decide +kernel
theorem d_R_build_14 : decode b_R_build 14 = .ok (.invokevirtual 108, 3) := by decide +kernel
theorem d_R_build_17 : decode b_R_build 17 = .ok (.ifCond .eq 5, 3) := by decide +kernel
theorem d_R_build_20 : decode b_R_build 20 = .ok (.iconst 0, 1) := by decide +kernel
theorem d_R_build_21 : decode b_R_build 21 = .ok (.ireturn, 1) := by decide +kernel
theorem d_R_build_22 : decode b_R_build 22 = .ok (.aload_n 0, 1) := by decide +kernel
theorem d_R_build_23 : decode b_R_build 23 = .ok (.invokevirtual 196, 3) := by decide +kernel
theorem d_R_build_26 : decode b_R_build 26 = .ok (.aload_n 0, 1) := by decide +kernel
theorem d_R_build_27 : decode b_R_build 27 = .ok (.invokevirtual 199, 3) := by decide +kernel
theorem d_R_build_30 : decode b_R_build 30 = .ok (.aload_n 0, 1) := by decide +kernel
theorem d_R_build_31 : decode b_R_build 31 = .ok (.invokevirtual 202, 3) := by decide +kernel
theorem d_R_build_34 : decode b_R_build 34 = .ok (.aload_n 0, 1) := by decide +kernel
theorem d_R_build_35 : decode b_R_build 35 = .ok (.invokevirtual 205, 3) := by decide +kernel
theorem d_R_build_38 : decode b_R_build 38 = .ok (.aload_n 0, 1) := by decide +kernel
theorem d_R_build_39 : decode b_R_build 39 = .ok (.invokevirtual 208, 3) := by decide +kernel
theorem d_R_build_42 : decode b_R_build 42 = .ok (.aload_n 0, 1) := by decide +kernel
theorem d_R_build_43 : decode b_R_build 43 = .ok (.invokevirtual 211, 3) := by decide +kernel
theorem d_R_build_46 : decode b_R_build 46 = .ok (.aload_n 0, 1) := by decide +kernel
theorem d_R_build_47 : decode b_R_build 47 = .ok (.iconst 1, 1) := by decide +kernel
theorem d_R_build_48 : decode b_R_build 48 = .ok (.putfield 112, 3) := by decide +kernel
theorem d_R_build_51 : decode b_R_build 51 = .ok (.aload_n 0, 1) := by decide +kernel
theorem d_R_build_52 : decode b_R_build 52 = .ok (.getfield 155, 3) := by decide +kernel
theorem d_R_build_55 : decode b_R_build 55 = .ok (.ireturn, 1) := by decide +kernel
theorem d_R_look_0 : decode b_R_look 0 = .ok (.aload_n 0, 1) := by decide +kernel
theorem d_R_look_1 : decode b_R_look 1 = .ok (.aload_n 0, 1) := by decide +kernel
theorem d_R_look_2 : decode b_R_look 2 = .ok (.iload_n 1, 1) := by decide +kernel
theorem d_R_look_3 : decode b_R_look 3 = .ok (.invokevirtual 116, 3) := by decide +kernel
theorem d_R_look_6 : decode b_R_look 6 = .ok (.ifCond .ne 12, 3) := by decide +kernel
theorem d_R_look_9 : decode b_R_look 9 = .ok (.iload_n 2, 1) := by decide +kernel
theorem d_R_look_10 : decode b_R_look 10 = .ok (.ifCond .lt 8, 3) := by decide +kernel
theorem d_R_look_13 : decode b_R_look 13 = .ok (.iload_n 2, 1) := by decide +kernel
theorem d_R_look_14 : decode b_R_look 14 = .ok (.iconst 5, 1) := by decide +kernel
theorem d_R_look_15 : decode b_R_look 15 = .ok (.if_icmp .le 7, 3) := by decide +kernel
theorem d_R_look_18 : decode b_R_look 18 = .ok (.iconst 1, 1) := by decide +kernel
theorem d_R_look_19 : decode b_R_look 19 = .ok (.goto 4, 3) := by decide +kernel
theorem d_R_look_22 : decode b_R_look 22 = .ok (.iconst 0, 1) := by decide +kernel
theorem d_R_look_23 : decode b_R_look 23 = .ok (.iconst 1, 1) := by decide +kernel
theorem d_R_look_24 : decode b_R_look 24 = .ok (.invokevirtual 108, 3) := by decide +kernel
theorem d_R_look_27 : decode b_R_look 27 = .ok (.ifCond .ne 23, 3) := by decide +kernel
theorem d_R_look_30 : decode b_R_look 30 = .ok (.aload_n 0, 1) := by decide +kernel
theorem d_R_look_31 : decode b_R_look 31 = .ok (.aload_n 0, 1) := by decide +kernel
theorem d_R_look_32 : decode b_R_look 32 = .ok (.getfield 112, 3) := by decide +kernel
theorem d_R_look_35 : decode b_R_look 35 = .ok (.ifCond .ne 7, 3) := by decide +kernel
theorem d_R_look_38 : decode b_R_look 38 = .ok (.iconst 1, 1) := by decide +kernel
theorem d_R_look_39 : decode b_R_look 39 = .ok (.goto 4, 3) := by decide +kernel
theorem d_R_look_42 : decode b_R_look 42 = .ok (.iconst 0, 1) := by decide +kernel
theorem d_R_look_43 : decode b_R_look 43 = .ok (.iconst 2, 1) := by decide +kernel
theorem d_R_look_44 : decode b_R_look 44 = .ok (.invokevirtual 108, 3) := by decide +kernel
theorem d_R_look_47 : decode b_R_look 47 = .ok (.ifCond .eq 5, 3) := by decide +kernel
theorem d_R_look_50 : decode b_R_look 50 = .ok (.iconst 0, 1) := by decide +kernel
theorem d_R_look_51 : decode b_R_look 51 = .ok (.ireturn, 1) := by decide +kernel
theorem d_R_look_52 : decode b_R_look 52 = .ok (.aload_n 0, 1) := by decide +kernel
theorem d_R_look_53 : decode b_R_look 53 = .ok (.getfield 135, 3) := by decide +kernel
theorem d_R_look_56 : decode b_R_look 56 = .ok (.iload_n 1, 1) := by decide +kernel
theorem d_R_look_57 : decode b_R_look 57 = .ok (.invokestatic 138, 3) := by decide +kernel
theorem d_R_look_60 : decode b_R_look 60 = .ok (.istore_n 3, 1) := by decide +kernel
theorem d_R_look_61 : decode b_R_look 61 = .ok (.iload_n 2, 1) := by decide +kernel
theorem d_R_look_62 : decode b_R_look 62 = .ok (.tableswitch 97 0 4 #[34, 44, 51, 69, 90], 34) := by decide +kernel
theorem d_R_look_96 : decode b_R_look 96 = .ok (.iload_n 3, 1) := by decide +kernel
theorem d_R_look_97 : decode b_R_look 97 = .ok (.ifCond .eq 7, 3) := by decide +kernel
theorem d_R_look_100 : decode b_R_look 100 = .ok (.iconst 1, 1) := by decide +kernel
theorem d_R_look_101 : decode b_R_look 101 = .ok (.goto 4, 3) := by decide +kernel
theorem d_R_look_104 : decode b_R_look 104 = .ok (.iconst 0, 1) := by decide +kernel
theorem d_R_look_105 : decode b_R_look 105 = .ok (.ireturn, 1) := by decide +kernel
theorem d_R_look_106 : decode b_R_look 106 = .ok (.aload_n 0, 1) := by decide +kernel
theorem d_R_look_107 : decode b_R_look 107 = .ok (.getfield 43, 3) := by decide +kernel
theorem d_R_look_110 : decode b_R_look 110 = .ok (.iload_n 1, 1) := by decide +kernel
theorem d_R_look_111 : decode b_R_look 111 = .ok (.iaload, 1) := by decide +kernel
theorem d_R_look_112 : decode b_R_look 112 = .ok (.ireturn, 1) := by decide +kernel
theorem d_R_look_113 : decode b_R_look 113 = .ok (.iload_n 3, 1) := by decide +kernel
theorem d_R_look_114 : decode b_R_look 114 = .ok (.ifCond .eq 15, 3) := by decide +kernel
theorem d_R_look_117 : decode b_R_look 117 = .ok (.aload_n 0, 1) := by decide +kernel
theorem d_R_look_118 : decode b_R_look 118 = .ok (.getfield 46, 3) := by decide +kernel
theorem d_R_look_121 : decode b_R_look 121 = .ok (.iload_n 1, 1) := by decide +kernel
theorem d_R_look_122 : decode b_R_look 122 = .ok (.iaload, 1) := by decide +kernel
theorem d_R_look_123 : decode b_R_look 123 = .ok (.invokestatic 146, 3) := by decide +kernel
theorem d_R_look_126 : decode b_R_look 126 = .ok (.goto 4, 3) := by decide +kernel
theorem d_R_look_129 : decode b_R_look 129 = .ok (.iconst 0, 1) := by decide +kernel
theorem d_R_look_130 : decode b_R_look 130 = .ok (.ireturn, 1) := by decide +kernel
theorem d_R_look_131 : decode b_R_look 131 = .ok (.iload_n 3, 1) := by decide +kernel
theorem d_R_look_132 : decode b_R_look 132 = .ok (.ifCond .eq 18, 3) := by decide +kernel
theorem d_R_look_135 : decode b_R_look 135 = .ok (.aload_n 0, 1) := by decide +kernel
theorem d_R_look_136 : decode b_R_look 136 = .ok (.getfield 166, 3) := by decide +kernel
theorem d_R_look_139 : decode b_R_look 139 = .ok (.iload_n 1, 1) := by decide +kernel
theorem d_R_look_140 : decode b_R_look 140 = .ok (.invokestatic 138, 3) := by decide +kernel
theorem d_R_look_143 : decode b_R_look 143 = .ok (.ifCond .eq 7, 3) := by decide +kernel
theorem d_R_look_146 : decode b_R_look 146 = .ok (.iconst 1, 1) := by decide +kernel
theorem d_R_look_147 : decode b_R_look 147 = .ok (.goto 4, 3) := by decide +kernel
theorem d_R_look_150 : decode b_R_look 150 = .ok (.iconst 0, 1) := by decide +kernel
theorem d_R_look_151 : decode b_R_look 151 = .ok (.ireturn, 1) := by decide +kernel
theorem d_R_look_152 : decode b_R_look 152 = .ok (.aload_n 0, 1) := by decide +kernel
theorem d_R_look_153 : decode b_R_look 153 = .ok (.getfield 7, 3) := by decide +kernel
theorem d_R_look_156 : decode b_R_look 156 = .ok (.iload_n 1, 1) := by decide +kernel
theorem d_R_look_157 : decode b_R_look 157 = .ok (.iaload, 1) := by decide +kernel
theorem d_R_look_158 : decode b_R_look 158 = .ok (.ireturn, 1) := by decide +kernel
theorem d_R_look_159 : decode b_R_look 159 = .ok (.iload_n 3, 1) := by decide +kernel
theorem d_R_look_160 : decode b_R_look 160 = .ok (.ifCond .eq 12, 3) := by decide +kernel
theorem d_R_look_163 : decode b_R_look 163 = .ok (.aload_n 0, 1) := by decide +kernel
theorem d_R_look_164 : decode b_R_look 164 = .ok (.getfield 67, 3) := by decide +kernel
theorem d_R_look_167 : decode b_R_look 167 = .ok (.iload_n 1, 1) := by decide +kernel
theorem d_R_look_168 : decode b_R_look 168 = .ok (.iaload, 1) := by decide +kernel
theorem d_R_look_169 : decode b_R_look 169 = .ok (.goto 4, 3) := by decide +kernel
theorem d_R_look_172 : decode b_R_look 172 = .ok (.iconst (-1), 1) := by decide +kernel
theorem d_R_look_173 : decode b_R_look 173 = .ok (.ireturn, 1) := by decide +kernel
theorem d_R_phiOf_0 : decode b_R_phiOf 0 = .ok (.aload_n 0, 1) := by decide +kernel
theorem d_R_phiOf_1 : decode b_R_phiOf 1 = .ok (.iload_n 1, 1) := by decide +kernel
theorem d_R_phiOf_2 : decode b_R_phiOf 2 = .ok (.invokevirtual 116, 3) := by decide +kernel
theorem d_R_phiOf_5 : decode b_R_phiOf 5 = .ok (.ifCond .ne 18, 3) := by decide +kernel
theorem d_R_phiOf_8 : decode b_R_phiOf 8 = .ok (.aload_n 0, 1) := by decide +kernel
theorem d_R_phiOf_9 : decode b_R_phiOf 9 = .ok (.getfield 135, 3) := by decide +kernel
theorem d_R_phiOf_12 : decode b_R_phiOf 12 = .ok (.iload_n 1, 1) := by decide +kernel
theorem d_R_phiOf_13 : decode b_R_phiOf 13 = .ok (.invokestatic 138, 3) := by decide +kernel
theorem d_R_phiOf_16 : decode b_R_phiOf 16 = .ok (.ifCond .eq 7, 3) := by decide +kernel
theorem d_R_phiOf_19 : decode b_R_phiOf 19 = .ok (.iload_n 2, 1) := by decide +kernel
theorem d_R_phiOf_20 : decode b_R_phiOf 20 = .ok (.ifCond .ge 5, 3) := by decide +kernel
theorem d_R_phiOf_23 : decode b_R_phiOf 23 = .ok (.iconst (-1), 1) := by decide +kernel
theorem d_R_phiOf_24 : decode b_R_phiOf 24 = .ok (.ireturn, 1) := by decide +kernel
theorem d_R_phiOf_25 : decode b_R_phiOf 25 = .ok (.iload_n 2, 1) := by decide +kernel
theorem d_R_phiOf_26 : decode b_R_phiOf 26 = .ok (.istore_n 3, 1) := by decide +kernel
theorem d_R_phiOf_27 : decode b_R_phiOf 27 = .ok (.iconst 0, 1) := by decide +kernel
theorem d_R_phiOf_28 : decode b_R_phiOf 28 = .ok (.istore 4, 2) := by decide +kernel
theorem d_R_phiOf_30 : decode b_R_phiOf 30 = .ok (.iload 4, 2) := by decide +kernel
theorem d_R_phiOf_32 : decode b_R_phiOf 32 = .ok (.bipush 6, 2) := by decide +kernel
theorem d_R_phiOf_34 : decode b_R_phiOf 34 = .ok (.if_icmp .ge 33, 3) := by decide +kernel
theorem d_R_phiOf_37 : decode b_R_phiOf 37 = .ok (.aload_n 0, 1) := by decide +kernel
theorem d_R_phiOf_38 : decode b_R_phiOf 38 = .ok (.getfield 46, 3) := by decide +kernel
theorem d_R_phiOf_41 : decode b_R_phiOf 41 = .ok (.iload_n 1, 1) := by decide +kernel
theorem d_R_phiOf_42 : decode b_R_phiOf 42 = .ok (.iaload, 1) := by decide +kernel
theorem d_R_phiOf_43 : decode b_R_phiOf 43 = .ok (.iload 4, 2) := by decide +kernel
theorem d_R_phiOf_45 : decode b_R_phiOf 45 = .ok (.invokestatic 138, 3) := by decide +kernel
theorem d_R_phiOf_48 : decode b_R_phiOf 48 = .ok (.ifCond .eq 13, 3) := by decide +kernel
theorem d_R_phiOf_51 : decode b_R_phiOf 51 = .ok (.iload_n 3, 1) := by decide +kernel
theorem d_R_phiOf_52 : decode b_R_phiOf 52 = .ok (.ifCond .ne 6, 3) := by decide +kernel
theorem d_R_phiOf_55 : decode b_R_phiOf 55 = .ok (.iload 4, 2) := by decide +kernel
theorem d_R_phiOf_57 : decode b_R_phiOf 57 = .ok (.ireturn, 1) := by decide +kernel
theorem d_R_phiOf_58 : decode b_R_phiOf 58 = .ok (.iinc 3 (-1), 3) := by decide +kernel
theorem d_R_phiOf_61 : decode b_R_phiOf 61 = .ok (.iinc 4 1, 3) := by decide +kernel
theorem d_R_phiOf_64 : decode b_R_phiOf 64 = .ok (.goto (-34), 3) := by decide +kernel
theorem d_R_phiOf_67 : decode b_R_phiOf 67 = .ok (.iconst (-1), 1) := by decide +kernel
theorem d_R_phiOf_68 : decode b_R_phiOf 68 = .ok (.ireturn, 1) := by decide +kernel
theorem d_R_phi_0 : decode b_R_phi 0 = .ok (.aload_n 0, 1) := by decide +kernel
theorem d_R_phi_1 : decode b_R_phi 1 = .ok (.aload_n 0, 1) := by decide +kernel
theorem d_R_phi_2 : decode b_R_phi 2 = .ok (.getfield 112, 3) := by decide +kernel
theorem d_R_phi_5 : decode b_R_phi 5 = .ok (.ifCond .ne 7, 3) := by decide +kernel
theorem d_R_phi_8 : decode b_R_phi 8 = .ok (.iconst 1, 1) := by decide +kernel
theorem d_R_phi_9 : decode b_R_phi 9 = .ok (.goto 4, 3) := by decide +kernel
theorem d_R_phi_12 : decode b_R_phi 12 = .ok (.iconst 0, 1) := by decide +kernel
theorem d_R_phi_13 : decode b_R_phi 13 = .ok (.iconst 2, 1) := by decide +kernel
theorem d_R_phi_14 : decode b_R_phi 14 = .ok (.invokevirtual 108, 3) := by decide +kernel
theorem d_R_phi_17 : decode b_R_phi 17 = .ok (.ifCond .eq 5, 3) := by decide +kernel
theorem d_R_phi_20 : decode b_R_phi 20 = .ok (.iconst 0, 1) := by decide +kernel
theorem d_R_phi_21 : decode b_R_phi 21 = .ok (.ireturn, 1) := by decide +kernel
theorem d_R_phi_22 : decode b_R_phi 22 = .ok (.aload_n 0, 1) := by decide +kernel
theorem d_R_phi_23 : decode b_R_phi 23 = .ok (.iload_n 1, 1) := by decide +kernel
theorem d_R_phi_24 : decode b_R_phi 24 = .ok (.iload_n 2, 1) := by decide +kernel
theorem d_R_phi_25 : decode b_R_phi 25 = .ok (.invokevirtual 214, 3) := by decide +kernel
theorem d_R_phi_28 : decode b_R_phi 28 = .ok (.istore 4, 2) := by decide +kernel
theorem d_R_phi_30 : decode b_R_phi 30 = .ok (.iload 4, 2) := by decide +kernel
theorem d_R_phi_32 : decode b_R_phi 32 = .ok (.ifCond .lt 34, 3) := by decide +kernel
theorem d_R_phi_35 : decode b_R_phi 35 = .ok (.iload_n 3, 1) := by decide +kernel
theorem d_R_phi_36 : decode b_R_phi 36 = .ok (.bipush (-2), 2) := by decide +kernel
theorem d_R_phi_38 : decode b_R_phi 38 = .ok (.if_icmp .lt 28, 3) := by decide +kernel
theorem d_R_phi_41 : decode b_R_phi 41 = .ok (.iload_n 3, 1) := by decide +kernel
theorem d_R_phi_42 : decode b_R_phi 42 = .ok (.aload_n 0, 1) := by decide +kernel
theorem d_R_phi_43 : decode b_R_phi 43 = .ok (.getfield 105, 3) := by decide +kernel
theorem d_R_phi_46 : decode b_R_phi 46 = .ok (.if_icmp .ge 20, 3) := by decide +kernel
theorem d_R_phi_49 : decode b_R_phi 49 = .ok (.iload_n 3, 1) := by decide +kernel
theorem d_R_phi_50 : decode b_R_phi 50 = .ok (.ifCond .lt 20, 3) := by decide +kernel
theorem d_R_phi_53 : decode b_R_phi 53 = .ok (.aload_n 0, 1) := by decide +kernel
theorem d_R_phi_54 : decode b_R_phi 54 = .ok (.getfield 40, 3) := by decide +kernel
theorem d_R_phi_57 : decode b_R_phi 57 = .ok (.iload_n 1, 1) := by decide +kernel
theorem d_R_phi_58 : decode b_R_phi 58 = .ok (.iaload, 1) := by decide +kernel
theorem d_R_phi_59 : decode b_R_phi 59 = .ok (.iload_n 3, 1) := by decide +kernel
theorem d_R_phi_60 : decode b_R_phi 60 = .ok (.invokestatic 138, 3) := by decide +kernel
theorem d_R_phi_63 : decode b_R_phi 63 = .ok (.ifCond .ne 7, 3) := by decide +kernel
theorem d_R_phi_66 : decode b_R_phi 66 = .ok (.iconst 1, 1) := by decide +kernel
theorem d_R_phi_67 : decode b_R_phi 67 = .ok (.goto 4, 3) := by decide +kernel
theorem d_R_phi_70 : decode b_R_phi 70 = .ok (.iconst 0, 1) := by decide +kernel
theorem d_R_phi_71 : decode b_R_phi 71 = .ok (.istore 5, 2) := by decide +kernel
theorem d_R_phi_73 : decode b_R_phi 73 = .ok (.aload_n 0, 1) := by decide +kernel
theorem d_R_phi_74 : decode b_R_phi 74 = .ok (.iload 5, 2) := by decide +kernel
theorem d_R_phi_76 : decode b_R_phi 76 = .ok (.iconst 1, 1) := by decide +kernel
theorem d_R_phi_77 : decode b_R_phi 77 = .ok (.invokevirtual 108, 3) := by decide +kernel
theorem d_R_phi_80 : decode b_R_phi 80 = .ok (.ifCond .eq 5, 3) := by decide +kernel
theorem d_R_phi_83 : decode b_R_phi 83 = .ok (.iconst 0, 1) := by decide +kernel
theorem d_R_phi_84 : decode b_R_phi 84 = .ok (.ireturn, 1) := by decide +kernel
theorem d_R_phi_85 : decode b_R_phi 85 = .ok (.iload_n 3, 1) := by decide +kernel
theorem d_R_phi_86 : decode b_R_phi 86 = .ok (.bipush (-2), 2) := by decide +kernel
theorem d_R_phi_88 : decode b_R_phi 88 = .ok (.if_icmp .ne 8, 3) := by decide +kernel
theorem d_R_phi_91 : decode b_R_phi 91 = .ok (.iload 4, 2) := by decide +kernel
theorem d_R_phi_93 : decode b_R_phi 93 = .ok (.goto 35, 3) := by decide +kernel
theorem d_R_phi_96 : decode b_R_phi 96 = .ok (.iload_n 3, 1) := by decide +kernel
theorem d_R_phi_97 : decode b_R_phi 97 = .ok (.iconst (-1), 1) := by decide +kernel
theorem d_R_phi_98 : decode b_R_phi 98 = .ok (.if_icmp .ne 18, 3) := by decide +kernel
theorem d_R_phi_101 : decode b_R_phi 101 = .ok (.aload_n 0, 1) := by decide +kernel
theorem d_R_phi_102 : decode b_R_phi 102 = .ok (.getfield 55, 3) := by decide +kernel
theorem d_R_phi_105 : decode b_R_phi 105 = .ok (.bipush 6, 2) := by decide +kernel
theorem d_R_phi_107 : decode b_R_phi 107 = .ok (.iload_n 1, 1) := by decide +kernel
theorem d_R_phi_108 : decode b_R_phi 108 = .ok (.imul, 1) := by decide +kernel
theorem d_R_phi_109 : decode b_R_phi 109 = .ok (.iload 4, 2) := by decide +kernel
theorem d_R_phi_111 : decode b_R_phi 111 = .ok (.iadd, 1) := by decide +kernel
theorem d_R_phi_112 : decode b_R_phi 112 = .ok (.iaload, 1) := by decide +kernel
theorem d_R_phi_113 : decode b_R_phi 113 = .ok (.goto 15, 3) := by decide +kernel
theorem d_R_phi_116 : decode b_R_phi 116 = .ok (.aload_n 0, 1) := by decide +kernel
theorem d_R_phi_117 : decode b_R_phi 117 = .ok (.getfield 70, 3) := by decide +kernel
theorem d_R_phi_120 : decode b_R_phi 120 = .ok (.bipush 6, 2) := by decide +kernel
theorem d_R_phi_122 : decode b_R_phi 122 = .ok (.iload_n 3, 1) := by decide +kernel
theorem d_R_phi_123 : decode b_R_phi 123 = .ok (.imul, 1) := by decide +kernel
theorem d_R_phi_124 : decode b_R_phi 124 = .ok (.iload 4, 2) := by decide +kernel
theorem d_R_phi_126 : decode b_R_phi 126 = .ok (.iadd, 1) := by decide +kernel
theorem d_R_phi_127 : decode b_R_phi 127 = .ok (.iaload, 1) := by decide +kernel
theorem d_R_phi_128 : decode b_R_phi 128 = .ok (.ireturn, 1) := by decide +kernel
theorem d_R_uses_0 : decode b_R_uses 0 = .ok (.aload_n 0, 1) := by decide +kernel
theorem d_R_uses_1 : decode b_R_uses 1 = .ok (.aload_n 0, 1) := by decide +kernel
theorem d_R_uses_2 : decode b_R_uses 2 = .ok (.getfield 112, 3) := by decide +kernel
theorem d_R_uses_5 : decode b_R_uses 5 = .ok (.ifCond .ne 7, 3) := by decide +kernel
theorem d_R_uses_8 : decode b_R_uses 8 = .ok (.iconst 1, 1) := by decide +kernel
theorem d_R_uses_9 : decode b_R_uses 9 = .ok (.goto 4, 3) := by decide +kernel
theorem d_R_uses_12 : decode b_R_uses 12 = .ok (.iconst 0, 1) := by decide +kernel
theorem d_R_uses_13 : decode b_R_uses 13 = .ok (.iconst 2, 1) := by decide +kernel
theorem d_R_uses_14 : decode b_R_uses 14 = .ok (.invokevirtual 108, 3) := by decide +kernel
theorem d_R_uses_17 : decode b_R_uses 17 = .ok (.ifCond .eq 5, 3) := by decide +kernel
theorem d_R_uses_20 : decode b_R_uses 20 = .ok (.iconst 0, 1) := by decide +kernel
theorem d_R_uses_21 : decode b_R_uses 21 = .ok (.ireturn, 1) := by decide +kernel
theorem d_R_uses_22 : decode b_R_uses 22 = .ok (.aload_n 0, 1) := by decide +kernel
theorem d_R_uses_23 : decode b_R_uses 23 = .ok (.iload_n 1, 1) := by decide +kernel
theorem d_R_uses_24 : decode b_R_uses 24 = .ok (.invokevirtual 116, 3) := by decide +kernel
theorem d_R_uses_27 : decode b_R_uses 27 = .ok (.ifCond .ne 37, 3) := by decide +kernel
theorem d_R_uses_30 : decode b_R_uses 30 = .ok (.aload_n 0, 1) := by decide +kernel
theorem d_R_uses_31 : decode b_R_uses 31 = .ok (.getfield 135, 3) := by decide +kernel
theorem d_R_uses_34 : decode b_R_uses 34 = .ok (.iload_n 1, 1) := by decide +kernel
theorem d_R_uses_35 : decode b_R_uses 35 = .ok (.invokestatic 138, 3) := by decide +kernel
theorem d_R_uses_38 : decode b_R_uses 38 = .ok (.ifCond .eq 26, 3) := by decide +kernel
theorem d_R_uses_41 : decode b_R_uses 41 = .ok (.iload_n 2, 1) := by decide +kernel
theorem d_R_uses_42 : decode b_R_uses 42 = .ok (.ifCond .lt 22, 3) := by decide +kernel
theorem d_R_uses_45 : decode b_R_uses 45 = .ok (.iload_n 2, 1) := by decide +kernel
theorem d_R_uses_46 : decode b_R_uses 46 = .ok (.aload_n 0, 1) := by decide +kernel
theorem d_R_uses_47 : decode b_R_uses 47 = .ok (.getfield 7, 3) := by decide +kernel
theorem d_R_uses_50 : decode b_R_uses 50 = .ok (.iload_n 1, 1) := by decide +kernel
theorem d_R_uses_51 : decode b_R_uses 51 = .ok (.iaload, 1) := by decide +kernel
theorem d_R_uses_52 : decode b_R_uses 52 = .ok (.if_icmp .ge 12, 3) := by decide +kernel
theorem d_R_uses_55 : decode b_R_uses 55 = .ok (.iload_n 3, 1) := by decide +kernel
theorem d_R_uses_56 : decode b_R_uses 56 = .ok (.ifCond .lt 8, 3) := by decide +kernel
theorem d_R_uses_59 : decode b_R_uses 59 = .ok (.iload_n 3, 1) := by decide +kernel
theorem d_R_uses_60 : decode b_R_uses 60 = .ok (.iconst 2, 1) := by decide +kernel
theorem d_R_uses_61 : decode b_R_uses 61 = .ok (.if_icmp .le 7, 3) := by decide +kernel
theorem d_R_uses_64 : decode b_R_uses 64 = .ok (.iconst 1, 1) := by decide +kernel
theorem d_R_uses_65 : decode b_R_uses 65 = .ok (.goto 4, 3) := by decide +kernel
theorem d_R_uses_68 : decode b_R_uses 68 = .ok (.iconst 0, 1) := by decide +kernel
theorem d_R_uses_69 : decode b_R_uses 69 = .ok (.istore 4, 2) := by decide +kernel
theorem d_R_uses_71 : decode b_R_uses 71 = .ok (.aload_n 0, 1) := by decide +kernel
theorem d_R_uses_72 : decode b_R_uses 72 = .ok (.iload 4, 2) := by decide +kernel
theorem d_R_uses_74 : decode b_R_uses 74 = .ok (.iconst 1, 1) := by decide +kernel
theorem d_R_uses_75 : decode b_R_uses 75 = .ok (.invokevirtual 108, 3) := by decide +kernel
theorem d_R_uses_78 : decode b_R_uses 78 = .ok (.ifCond .eq 5, 3) := by decide +kernel
theorem d_R_uses_81 : decode b_R_uses 81 = .ok (.iconst 0, 1) := by decide +kernel
theorem d_R_uses_82 : decode b_R_uses 82 = .ok (.ireturn, 1) := by decide +kernel
theorem d_R_uses_83 : decode b_R_uses 83 = .ok (.bipush 6, 2) := by decide +kernel
theorem d_R_uses_85 : decode b_R_uses 85 = .ok (.iload_n 1, 1) := by decide +kernel
theorem d_R_uses_86 : decode b_R_uses 86 = .ok (.imul, 1) := by decide +kernel
theorem d_R_uses_87 : decode b_R_uses 87 = .ok (.iload_n 2, 1) := by decide +kernel
theorem d_R_uses_88 : decode b_R_uses 88 = .ok (.iadd, 1) := by decide +kernel
theorem d_R_uses_89 : decode b_R_uses 89 = .ok (.istore 5, 2) := by decide +kernel
theorem d_R_uses_91 : decode b_R_uses 91 = .ok (.iload_n 3, 1) := by decide +kernel
theorem d_R_uses_92 : decode b_R_uses 92 = .ok (.ifCond .ne 13, 3) := by decide +kernel
theorem d_R_uses_95 : decode b_R_uses 95 = .ok (.aload_n 0, 1) := by decide +kernel
theorem d_R_uses_96 : decode b_R_uses 96 = .ok (.getfield 58, 3) := by decide +kernel
theorem d_R_uses_99 : decode b_R_uses 99 = .ok (.iload 5, 2) := by decide +kernel
theorem d_R_uses_101 : decode b_R_uses 101 = .ok (.iaload, 1) := by decide +kernel
theorem d_R_uses_102 : decode b_R_uses 102 = .ok (.goto 25, 3) := by decide +kernel
theorem d_R_uses_105 : decode b_R_uses 105 = .ok (.iload_n 3, 1) := by decide +kernel
theorem d_R_uses_106 : decode b_R_uses 106 = .ok (.iconst 1, 1) := by decide +kernel
theorem d_R_uses_107 : decode b_R_uses 107 = .ok (.if_icmp .ne 13, 3) := by decide +kernel
theorem d_R_uses_110 : decode b_R_uses 110 = .ok (.aload_n 0, 1) := by decide +kernel
theorem d_R_uses_111 : decode b_R_uses 111 = .ok (.getfield 61, 3) := by decide +kernel
theorem d_R_uses_114 : decode b_R_uses 114 = .ok (.iload 5, 2) := by decide +kernel
theorem d_R_uses_116 : decode b_R_uses 116 = .ok (.iaload, 1) := by decide +kernel
theorem d_R_uses_117 : decode b_R_uses 117 = .ok (.goto 10, 3) := by decide +kernel
theorem d_R_uses_120 : decode b_R_uses 120 = .ok (.aload_n 0, 1) := by decide +kernel
theorem d_R_uses_121 : decode b_R_uses 121 = .ok (.getfield 64, 3) := by decide +kernel
theorem d_R_uses_124 : decode b_R_uses 124 = .ok (.iload 5, 2) := by decide +kernel
theorem d_R_uses_126 : decode b_R_uses 126 = .ok (.iaload, 1) := by decide +kernel
theorem d_R_uses_127 : decode b_R_uses 127 = .ok (.ireturn, 1) := by decide +kernel
theorem d_R_name_0 : decode b_R_name 0 = .ok (.aload_n 0, 1) := by decide +kernel
theorem d_R_name_1 : decode b_R_name 1 = .ok (.aload_n 0, 1) := by decide +kernel
theorem d_R_name_2 : decode b_R_name 2 = .ok (.getfield 112, 3) := by decide +kernel
theorem d_R_name_5 : decode b_R_name 5 = .ok (.ifCond .ne 7, 3) := by decide +kernel
theorem d_R_name_8 : decode b_R_name 8 = .ok (.iconst 1, 1) := by decide +kernel
theorem d_R_name_9 : decode b_R_name 9 = .ok (.goto 4, 3) := by decide +kernel
theorem d_R_name_12 : decode b_R_name 12 = .ok (.iconst 0, 1) := by decide +kernel
theorem d_R_name_13 : decode b_R_name 13 = .ok (.iconst 2, 1) := by decide +kernel
theorem d_R_name_14 : decode b_R_name 14 = .ok (.invokevirtual 108, 3) := by decide +kernel
theorem d_R_name_17 : decode b_R_name 17 = .ok (.ifCond .eq 5, 3) := by decide +kernel
theorem d_R_name_20 : decode b_R_name 20 = .ok (.iconst 0, 1) := by decide +kernel
theorem d_R_name_21 : decode b_R_name 21 = .ok (.ireturn, 1) := by decide +kernel
theorem d_R_name_22 : decode b_R_name 22 = .ok (.aload_n 0, 1) := by decide +kernel
theorem d_R_name_23 : decode b_R_name 23 = .ok (.iload_n 1, 1) := by decide +kernel
theorem d_R_name_24 : decode b_R_name 24 = .ok (.ifCond .lt 20, 3) := by decide +kernel
theorem d_R_name_27 : decode b_R_name 27 = .ok (.iload_n 1, 1) := by decide +kernel
theorem d_R_name_28 : decode b_R_name 28 = .ok (.aload_n 0, 1) := by decide +kernel
theorem d_R_name_29 : decode b_R_name 29 = .ok (.getfield 155, 3) := by decide +kernel
theorem d_R_name_32 : decode b_R_name 32 = .ok (.if_icmp .ge 12, 3) := by decide +kernel
theorem d_R_name_35 : decode b_R_name 35 = .ok (.iload_n 2, 1) := by decide +kernel
theorem d_R_name_36 : decode b_R_name 36 = .ok (.ifCond .lt 8, 3) := by decide +kernel
theorem d_R_name_39 : decode b_R_name 39 = .ok (.iload_n 2, 1) := by decide +kernel
theorem d_R_name_40 : decode b_R_name 40 = .ok (.iconst 3, 1) := by decide +kernel
theorem d_R_name_41 : decode b_R_name 41 = .ok (.if_icmp .le 7, 3) := by decide +kernel
theorem d_R_name_44 : decode b_R_name 44 = .ok (.iconst 1, 1) := by decide +kernel
theorem d_R_name_45 : decode b_R_name 45 = .ok (.goto 4, 3) := by decide +kernel
theorem d_R_name_48 : decode b_R_name 48 = .ok (.iconst 0, 1) := by decide +kernel
theorem d_R_name_49 : decode b_R_name 49 = .ok (.iconst 1, 1) := by decide +kernel
theorem d_R_name_50 : decode b_R_name 50 = .ok (.invokevirtual 108, 3) := by decide +kernel
theorem d_R_name_53 : decode b_R_name 53 = .ok (.ifCond .eq 5, 3) := by decide +kernel
theorem d_R_name_56 : decode b_R_name 56 = .ok (.iconst 0, 1) := by decide +kernel
theorem d_R_name_57 : decode b_R_name 57 = .ok (.ireturn, 1) := by decide +kernel
theorem d_R_name_58 : decode b_R_name 58 = .ok (.iload_n 2, 1) := by decide +kernel
theorem d_R_name_59 : decode b_R_name 59 = .ok (.ifCond .ne 12, 3) := by decide +kernel
theorem d_R_name_62 : decode b_R_name 62 = .ok (.aload_n 0, 1) := by decide +kernel
theorem d_R_name_63 : decode b_R_name 63 = .ok (.getfield 79, 3) := by decide +kernel
theorem d_R_name_66 : decode b_R_name 66 = .ok (.iload_n 1, 1) := by decide +kernel
theorem d_R_name_67 : decode b_R_name 67 = .ok (.iaload, 1) := by decide +kernel
theorem d_R_name_68 : decode b_R_name 68 = .ok (.goto 45, 3) := by decide +kernel
theorem d_R_name_71 : decode b_R_name 71 = .ok (.iload_n 2, 1) := by decide +kernel
theorem d_R_name_72 : decode b_R_name 72 = .ok (.iconst 1, 1) := by decide +kernel
theorem d_R_name_73 : decode b_R_name 73 = .ok (.if_icmp .ne 12, 3) := by decide +kernel
theorem d_R_name_76 : decode b_R_name 76 = .ok (.aload_n 0, 1) := by decide +kernel
theorem d_R_name_77 : decode b_R_name 77 = .ok (.getfield 82, 3) := by decide +kernel
theorem d_R_name_80 : decode b_R_name 80 = .ok (.iload_n 1, 1) := by decide +kernel
theorem d_R_name_81 : decode b_R_name 81 = .ok (.iaload, 1) := by decide +kernel
theorem d_R_name_82 : decode b_R_name 82 = .ok (.goto 31, 3) := by decide +kernel
theorem d_R_name_85 : decode b_R_name 85 = .ok (.iload_n 2, 1) := by decide +kernel
theorem d_R_name_86 : decode b_R_name 86 = .ok (.iconst 2, 1) := by decide +kernel
theorem d_R_name_87 : decode b_R_name 87 = .ok (.if_icmp .ne 20, 3) := by decide +kernel
theorem d_R_name_90 : decode b_R_name 90 = .ok (.aload_n 0, 1) := by decide +kernel
theorem d_R_name_91 : decode b_R_name 91 = .ok (.getfield 85, 3) := by decide +kernel
theorem d_R_name_94 : decode b_R_name 94 = .ok (.iload_n 1, 1) := by decide +kernel
theorem d_R_name_95 : decode b_R_name 95 = .ok (.baload, 1) := by decide +kernel
theorem d_R_name_96 : decode b_R_name 96 = .ok (.ifCond .eq 7, 3) := by decide +kernel
theorem d_R_name_99 : decode b_R_name 99 = .ok (.iconst 1, 1) := by decide +kernel
theorem d_R_name_100 : decode b_R_name 100 = .ok (.goto 13, 3) := by decide +kernel
theorem d_R_name_103 : decode b_R_name 103 = .ok (.iconst 0, 1) := by decide +kernel
theorem d_R_name_104 : decode b_R_name 104 = .ok (.goto 9, 3) := by decide +kernel
theorem d_R_name_107 : decode b_R_name 107 = .ok (.aload_n 0, 1) := by decide +kernel
theorem d_R_name_108 : decode b_R_name 108 = .ok (.getfield 49, 3) := by decide +kernel
theorem d_R_name_111 : decode b_R_name 111 = .ok (.iload_n 1, 1) := by decide +kernel
theorem d_R_name_112 : decode b_R_name 112 = .ok (.iaload, 1) := by decide +kernel
theorem d_R_name_113 : decode b_R_name 113 = .ok (.ireturn, 1) := by decide +kernel
theorem d_R_give_0 : decode b_R_give 0 = .ok (.aload_n 0, 1) := by decide +kernel
theorem d_R_give_1 : decode b_R_give 1 = .ok (.iconst 0, 1) := by decide +kernel
theorem d_R_give_2 : decode b_R_give 2 = .ok (.putfield 101, 3) := by decide +kernel
theorem d_R_give_5 : decode b_R_give 5 = .ok (.aload_n 0, 1) := by decide +kernel
theorem d_R_give_6 : decode b_R_give 6 = .ok (.getfield 217, 3) := by decide +kernel
theorem d_R_give_9 : decode b_R_give 9 = .ok (.bipush 16, 2) := by decide +kernel
theorem d_R_give_11 : decode b_R_give 11 = .ok (.if_icmp .ne 5, 3) := by decide +kernel
theorem d_R_give_14 : decode b_R_give 14 = .ok (.iconst 0, 1) := by decide +kernel
theorem d_R_give_15 : decode b_R_give 15 = .ok (.ireturn, 1) := by decide +kernel
theorem d_R_give_16 : decode b_R_give 16 = .ok (.aload_n 0, 1) := by decide +kernel
theorem d_R_give_17 : decode b_R_give 17 = .ok (.getfield 89, 3) := by decide +kernel
theorem d_R_give_20 : decode b_R_give 20 = .ok (.aload_n 0, 1) := by decide +kernel
theorem d_R_give_21 : decode b_R_give 21 = .ok (.getfield 217, 3) := by decide +kernel
theorem d_R_give_24 : decode b_R_give 24 = .ok (.iload_n 1, 1) := by decide +kernel
theorem d_R_give_25 : decode b_R_give 25 = .ok (.iastore, 1) := by decide +kernel
theorem d_R_give_26 : decode b_R_give 26 = .ok (.aload_n 0, 1) := by decide +kernel
theorem d_R_give_27 : decode b_R_give 27 = .ok (.dup, 1) := by decide +kernel
theorem d_R_give_28 : decode b_R_give 28 = .ok (.getfield 217, 3) := by decide +kernel
theorem d_R_give_31 : decode b_R_give 31 = .ok (.iconst 1, 1) := by decide +kernel
theorem d_R_give_32 : decode b_R_give 32 = .ok (.iadd, 1) := by decide +kernel
theorem d_R_give_33 : decode b_R_give 33 = .ok (.putfield 217, 3) := by decide +kernel
theorem d_R_give_36 : decode b_R_give 36 = .ok (.iconst 1, 1) := by decide +kernel
theorem d_R_give_37 : decode b_R_give 37 = .ok (.ireturn, 1) := by decide +kernel
theorem d_R_take_0 : decode b_R_take 0 = .ok (.aload_n 0, 1) := by decide +kernel
theorem d_R_take_1 : decode b_R_take 1 = .ok (.iconst 0, 1) := by decide +kernel
theorem d_R_take_2 : decode b_R_take 2 = .ok (.putfield 101, 3) := by decide +kernel
theorem d_R_take_5 : decode b_R_take 5 = .ok (.aload_n 0, 1) := by decide +kernel
theorem d_R_take_6 : decode b_R_take 6 = .ok (.iconst 0, 1) := by decide +kernel
theorem d_R_take_7 : decode b_R_take 7 = .ok (.putfield 217, 3) := by decide +kernel
theorem d_R_take_10 : decode b_R_take 10 = .ok (.return_, 1) := by decide +kernel
theorem d_R_tell_0 : decode b_R_tell 0 = .ok (.aload_n 0, 1) := by decide +kernel
theorem d_R_tell_1 : decode b_R_tell 1 = .ok (.getfield 220, 3) := by decide +kernel
theorem d_R_tell_4 : decode b_R_tell 4 = .ok (.bipush 40, 2) := by decide +kernel
theorem d_R_tell_6 : decode b_R_tell 6 = .ok (.if_icmp .ge 13, 3) := by decide +kernel
theorem d_R_tell_9 : decode b_R_tell 9 = .ok (.aload_n 0, 1) := by decide +kernel
theorem d_R_tell_10 : decode b_R_tell 10 = .ok (.getfield 92, 3) := by decide +kernel
theorem d_R_tell_13 : decode b_R_tell 13 = .ok (.aload_n 0, 1) := by decide +kernel
theorem d_R_tell_14 : decode b_R_tell 14 = .ok (.getfield 220, 3) := by decide +kernel
theorem d_R_tell_17 : decode b_R_tell 17 = .ok (.iload_n 1, 1) := by decide +kernel
theorem d_R_tell_18 : decode b_R_tell 18 = .ok (.iastore, 1) := by decide +kernel
theorem d_R_tell_19 : decode b_R_tell 19 = .ok (.aload_n 0, 1) := by decide +kernel
theorem d_R_tell_20 : decode b_R_tell 20 = .ok (.dup, 1) := by decide +kernel
theorem d_R_tell_21 : decode b_R_tell 21 = .ok (.getfield 220, 3) := by decide +kernel
theorem d_R_tell_24 : decode b_R_tell 24 = .ok (.iconst 1, 1) := by decide +kernel
theorem d_R_tell_25 : decode b_R_tell 25 = .ok (.iadd, 1) := by decide +kernel
theorem d_R_tell_26 : decode b_R_tell 26 = .ok (.putfield 220, 3) := by decide +kernel
theorem d_R_tell_29 : decode b_R_tell 29 = .ok (.return_, 1) := by decide +kernel
theorem d_R_ask_0 : decode b_R_ask 0 = .ok (.aload_n 0, 1) := by decide +kernel
theorem d_R_ask_1 : decode b_R_ask 1 = .ok (.dup, 1) := by decide +kernel
theorem d_R_ask_2 : decode b_R_ask 2 = .ok (.getfield 223, 3) := by decide +kernel
theorem d_R_ask_5 : decode b_R_ask 5 = .ok (.iconst 1, 1) := by decide +kernel
theorem d_R_ask_6 : decode b_R_ask 6 = .ok (.iadd, 1) := by decide +kernel
theorem d_R_ask_7 : decode b_R_ask 7 = .ok (.putfield 223, 3) := by decide +kernel
theorem d_R_ask_10 : decode b_R_ask 10 = .ok (.aload_n 0, 1) := by decide +kernel
theorem d_R_ask_11 : decode b_R_ask 11 = .ok (.getfield 223, 3) := by decide +kernel
theorem d_R_ask_14 : decode b_R_ask 14 = .ok (.aload_n 0, 1) := by decide +kernel
theorem d_R_ask_15 : decode b_R_ask 15 = .ok (.getfield 217, 3) := by decide +kernel
theorem d_R_ask_18 : decode b_R_ask 18 = .ok (.if_icmp .gt 17, 3) := by decide +kernel
theorem d_R_ask_21 : decode b_R_ask 21 = .ok (.aload_n 0, 1) := by decide +kernel
theorem d_R_ask_22 : decode b_R_ask 22 = .ok (.getfield 89, 3) := by decide +kernel
theorem d_R_ask_25 : decode b_R_ask 25 = .ok (.aload_n 0, 1) := by decide +kernel
theorem d_R_ask_26 : decode b_R_ask 26 = .ok (.getfield 223, 3) := by decide +kernel
theorem d_R_ask_29 : decode b_R_ask 29 = .ok (.iconst 1, 1) := by decide +kernel
theorem d_R_ask_30 : decode b_R_ask 30 = .ok (.isub, 1) := by decide +kernel
theorem d_R_ask_31 : decode b_R_ask 31 = .ok (.iaload, 1) := by decide +kernel
theorem d_R_ask_32 : decode b_R_ask 32 = .ok (.goto 4, 3) := by decide +kernel
theorem d_R_ask_35 : decode b_R_ask 35 = .ok (.iconst 0, 1) := by decide +kernel
theorem d_R_ask_36 : decode b_R_ask 36 = .ok (.ireturn, 1) := by decide +kernel
theorem d_R_plainValue_0 : decode b_R_plainValue 0 = .ok (.aload_n 0, 1) := by decide +kernel
theorem d_R_plainValue_1 : decode b_R_plainValue 1 = .ok (.getfield 13, 3) := by decide +kernel
theorem d_R_plainValue_4 : decode b_R_plainValue 4 = .ok (.iload_n 1, 1) := by decide +kernel
theorem d_R_plainValue_5 : decode b_R_plainValue 5 = .ok (.iaload, 1) := by decide +kernel
theorem d_R_plainValue_6 : decode b_R_plainValue 6 = .ok (.istore_n 2, 1) := by decide +kernel
theorem d_R_plainValue_7 : decode b_R_plainValue 7 = .ok (.iload_n 2, 1) := by decide +kernel
theorem d_R_plainValue_8 : decode b_R_plainValue 8 = .ok (.ifCond .ne 10, 3) := by decide +kernel
theorem d_R_plainValue_11 : decode b_R_plainValue 11 = .ok (.aload_n 0, 1) := by decide +kernel
theorem d_R_plainValue_12 : decode b_R_plainValue 12 = .ok (.getfield 19, 3) := by decide +kernel
theorem d_R_plainValue_15 : decode b_R_plainValue 15 = .ok (.iload_n 1, 1) := by decide +kernel
theorem d_R_plainValue_16 : decode b_R_plainValue 16 = .ok (.iaload, 1) := by decide +kernel
theorem d_R_plainValue_17 : decode b_R_plainValue 17 = .ok (.ireturn, 1) := by decide +kernel
theorem d_R_plainValue_18 : decode b_R_plainValue 18 = .ok (.iload_n 2, 1) := by decide +kernel
theorem d_R_plainValue_19 : decode b_R_plainValue 19 = .ok (.bipush 6, 2) := by decide +kernel
theorem d_R_plainValue_21 : decode b_R_plainValue 21 = .ok (.if_icmp .ne 8, 3) := by decide +kernel
theorem d_R_plainValue_24 : decode b_R_plainValue 24 = .ok (.aload_n 0, 1) := by decide +kernel
theorem d_R_plainValue_25 : decode b_R_plainValue 25 = .ok (.invokevirtual 226, 3) := by decide +kernel
theorem d_R_plainValue_28 : decode b_R_plainValue 28 = .ok (.ireturn, 1) := by decide +kernel
theorem d_R_plainValue_29 : decode b_R_plainValue 29 = .ok (.aload_n 0, 1) := by decide +kernel
theorem d_R_plainValue_30 : decode b_R_plainValue 30 = .ok (.getfield 95, 3) := by decide +kernel
theorem d_R_plainValue_33 : decode b_R_plainValue 33 = .ok (.aload_n 0, 1) := by decide +kernel
theorem d_R_plainValue_34 : decode b_R_plainValue 34 = .ok (.getfield 19, 3) := by decide +kernel
theorem d_R_plainValue_37 : decode b_R_plainValue 37 = .ok (.iload_n 1, 1) := by decide +kernel
theorem d_R_plainValue_38 : decode b_R_plainValue 38 = .ok (.iaload, 1) := by decide +kernel
theorem d_R_plainValue_39 : decode b_R_plainValue 39 = .ok (.iaload, 1) := by decide +kernel
theorem d_R_plainValue_40 : decode b_R_plainValue 40 = .ok (.istore_n 3, 1) := by decide +kernel
theorem d_R_plainValue_41 : decode b_R_plainValue 41 = .ok (.iload_n 2, 1) := by decide +kernel
theorem d_R_plainValue_42 : decode b_R_plainValue 42 = .ok (.iconst 1, 1) := by decide +kernel
theorem d_R_plainValue_43 : decode b_R_plainValue 43 = .ok (.if_icmp .ne 7, 3) := by decide +kernel
theorem d_R_plainValue_46 : decode b_R_plainValue 46 = .ok (.iload_n 3, 1) := by decide +kernel
theorem d_R_plainValue_47 : decode b_R_plainValue 47 = .ok (.goto 20, 3) := by decide +kernel
theorem d_R_plainValue_50 : decode b_R_plainValue 50 = .ok (.aload_n 0, 1) := by decide +kernel
theorem d_R_plainValue_51 : decode b_R_plainValue 51 = .ok (.iload_n 2, 1) := by decide +kernel
theorem d_R_plainValue_52 : decode b_R_plainValue 52 = .ok (.iload_n 3, 1) := by decide +kernel
theorem d_R_plainValue_53 : decode b_R_plainValue 53 = .ok (.aload_n 0, 1) := by decide +kernel
theorem d_R_plainValue_54 : decode b_R_plainValue 54 = .ok (.getfield 95, 3) := by decide +kernel
theorem d_R_plainValue_57 : decode b_R_plainValue 57 = .ok (.aload_n 0, 1) := by decide +kernel
theorem d_R_plainValue_58 : decode b_R_plainValue 58 = .ok (.getfield 22, 3) := by decide +kernel
theorem d_R_plainValue_61 : decode b_R_plainValue 61 = .ok (.iload_n 1, 1) := by decide +kernel
theorem d_R_plainValue_62 : decode b_R_plainValue 62 = .ok (.iaload, 1) := by decide +kernel
theorem d_R_plainValue_63 : decode b_R_plainValue 63 = .ok (.iaload, 1) := by decide +kernel
theorem d_R_plainValue_64 : decode b_R_plainValue 64 = .ok (.invokevirtual 173, 3) := by decide +kernel
theorem d_R_plainValue_67 : decode b_R_plainValue 67 = .ok (.ireturn, 1) := by decide +kernel
theorem d_R_plainBlock_0 : decode b_R_plainBlock 0 = .ok (.bipush 6, 2) := by decide +kernel
theorem d_R_plainBlock_2 : decode b_R_plainBlock 2 = .ok (.iload_n 1, 1) := by decide +kernel
theorem d_R_plainBlock_3 : decode b_R_plainBlock 3 = .ok (.imul, 1) := by decide +kernel
theorem d_R_plainBlock_4 : decode b_R_plainBlock 4 = .ok (.istore_n 2, 1) := by decide +kernel
theorem d_R_plainBlock_5 : decode b_R_plainBlock 5 = .ok (.iload_n 2, 1) := by decide +kernel
theorem d_R_plainBlock_6 : decode b_R_plainBlock 6 = .ok (.bipush 6, 2) := by decide +kernel
theorem d_R_plainBlock_8 : decode b_R_plainBlock 8 = .ok (.iload_n 1, 1) := by decide +kernel
theorem d_R_plainBlock_9 : decode b_R_plainBlock 9 = .ok (.imul, 1) := by decide +kernel
theorem d_R_plainBlock_10 : decode b_R_plainBlock 10 = .ok (.aload_n 0, 1) := by decide +kernel
theorem d_R_plainBlock_11 : decode b_R_plainBlock 11 = .ok (.getfield 7, 3) := by decide +kernel
theorem d_R_plainBlock_14 : decode b_R_plainBlock 14 = .ok (.iload_n 1, 1) := by decide +kernel
theorem d_R_plainBlock_15 : decode b_R_plainBlock 15 = .ok (.iaload, 1) := by decide +kernel
theorem d_R_plainBlock_16 : decode b_R_plainBlock 16 = .ok (.iadd, 1) := by decide +kernel
theorem d_R_plainBlock_17 : decode b_R_plainBlock 17 = .ok (.if_icmp .ge 64, 3) := by decide +kernel
theorem d_R_plainBlock_20 : decode b_R_plainBlock 20 = .ok (.aload_n 0, 1) := by decide +kernel
theorem d_R_plainBlock_21 : decode b_R_plainBlock 21 = .ok (.dup, 1) := by decide +kernel
theorem d_R_plainBlock_22 : decode b_R_plainBlock 22 = .ok (.getfield 230, 3) := by decide +kernel
theorem d_R_plainBlock_25 : decode b_R_plainBlock 25 = .ok (.iconst 1, 1) := by decide +kernel
theorem d_R_plainBlock_26 : decode b_R_plainBlock 26 = .ok (.iadd, 1) := by decide +kernel
theorem d_R_plainBlock_27 : decode b_R_plainBlock 27 = .ok (.putfield 230, 3) := by decide +kernel
theorem d_R_plainBlock_30 : decode b_R_plainBlock 30 = .ok (.aload_n 0, 1) := by decide +kernel
theorem d_R_plainBlock_31 : decode b_R_plainBlock 31 = .ok (.getfield 13, 3) := by decide +kernel
theorem d_R_plainBlock_34 : decode b_R_plainBlock 34 = .ok (.iload_n 2, 1) := by decide +kernel
theorem d_R_plainBlock_35 : decode b_R_plainBlock 35 = .ok (.iaload, 1) := by decide +kernel
theorem d_R_plainBlock_36 : decode b_R_plainBlock 36 = .ok (.bipush 7, 2) := by decide +kernel
theorem d_R_plainBlock_38 : decode b_R_plainBlock 38 = .ok (.if_icmp .ne 21, 3) := by decide +kernel
theorem d_R_plainBlock_41 : decode b_R_plainBlock 41 = .ok (.aload_n 0, 1) := by decide +kernel
theorem d_R_plainBlock_42 : decode b_R_plainBlock 42 = .ok (.aload_n 0, 1) := by decide +kernel
theorem d_R_plainBlock_43 : decode b_R_plainBlock 43 = .ok (.getfield 95, 3) := by decide +kernel
theorem d_R_plainBlock_46 : decode b_R_plainBlock 46 = .ok (.aload_n 0, 1) := by decide +kernel
theorem d_R_plainBlock_47 : decode b_R_plainBlock 47 = .ok (.getfield 19, 3) := by decide +kernel
theorem d_R_plainBlock_50 : decode b_R_plainBlock 50 = .ok (.iload_n 2, 1) := by decide +kernel
theorem d_R_plainBlock_51 : decode b_R_plainBlock 51 = .ok (.iaload, 1) := by decide +kernel
theorem d_R_plainBlock_52 : decode b_R_plainBlock 52 = .ok (.iaload, 1) := by decide +kernel
theorem d_R_plainBlock_53 : decode b_R_plainBlock 53 = .ok (.invokevirtual 233, 3) := by decide +kernel
theorem d_R_plainBlock_56 : decode b_R_plainBlock 56 = .ok (.goto 19, 3) := by decide +kernel
theorem d_R_plainBlock_59 : decode b_R_plainBlock 59 = .ok (.aload_n 0, 1) := by decide +kernel
theorem d_R_plainBlock_60 : decode b_R_plainBlock 60 = .ok (.getfield 95, 3) := by decide +kernel
theorem d_R_plainBlock_63 : decode b_R_plainBlock 63 = .ok (.aload_n 0, 1) := by decide +kernel
theorem d_R_plainBlock_64 : decode b_R_plainBlock 64 = .ok (.getfield 16, 3) := by decide +kernel
theorem d_R_plainBlock_67 : decode b_R_plainBlock 67 = .ok (.iload_n 2, 1) := by decide +kernel
theorem d_R_plainBlock_68 : decode b_R_plainBlock 68 = .ok (.iaload, 1) := by decide +kernel
theorem d_R_plainBlock_69 : decode b_R_plainBlock 69 = .ok (.aload_n 0, 1) := by decide +kernel
theorem d_R_plainBlock_70 : decode b_R_plainBlock 70 = .ok (.iload_n 2, 1) := by decide +kernel
theorem d_R_plainBlock_71 : decode b_R_plainBlock 71 = .ok (.invokevirtual 236, 3) := by decide +kernel
theorem d_R_plainBlock_74 : decode b_R_plainBlock 74 = .ok (.iastore, 1) := by decide +kernel
theorem d_R_plainBlock_75 : decode b_R_plainBlock 75 = .ok (.iinc 2 1, 3) := by decide +kernel
theorem d_R_plainBlock_78 : decode b_R_plainBlock 78 = .ok (.goto (-73), 3) := by decide +kernel
theorem d_R_plainBlock_81 : decode b_R_plainBlock 81 = .ok (.return_, 1) := by decide +kernel
theorem d_R_value_0 : decode b_R_value 0 = .ok (.aload_n 0, 1) := by decide +kernel
theorem d_R_value_1 : decode b_R_value 1 = .ok (.getfield 79, 3) := by decide +kernel
theorem d_R_value_4 : decode b_R_value 4 = .ok (.iload_n 1, 1) := by decide +kernel
theorem d_R_value_5 : decode b_R_value 5 = .ok (.iaload, 1) := by decide +kernel
theorem d_R_value_6 : decode b_R_value 6 = .ok (.iconst 1, 1) := by decide +kernel
theorem d_R_value_7 : decode b_R_value 7 = .ok (.if_icmp .ne 12, 3) := by decide +kernel
theorem d_R_value_10 : decode b_R_value 10 = .ok (.aload_n 0, 1) := by decide +kernel
theorem d_R_value_11 : decode b_R_value 11 = .ok (.getfield 82, 3) := by decide +kernel
theorem d_R_value_14 : decode b_R_value 14 = .ok (.iload_n 1, 1) := by decide +kernel
theorem d_R_value_15 : decode b_R_value 15 = .ok (.iaload, 1) := by decide +kernel
theorem d_R_value_16 : decode b_R_value 16 = .ok (.goto 9, 3) := by decide +kernel
theorem d_R_value_19 : decode b_R_value 19 = .ok (.aload_n 0, 1) := by decide +kernel
theorem d_R_value_20 : decode b_R_value 20 = .ok (.getfield 95, 3) := by decide +kernel
theorem d_R_value_23 : decode b_R_value 23 = .ok (.iload_n 1, 1) := by decide +kernel
theorem d_R_value_24 : decode b_R_value 24 = .ok (.iaload, 1) := by decide +kernel
theorem d_R_value_25 : decode b_R_value 25 = .ok (.ireturn, 1) := by decide +kernel
theorem d_R_formedBlock_0 : decode b_R_formedBlock 0 = .ok (.iconst 0, 1) := by decide +kernel
theorem d_R_formedBlock_1 : decode b_R_formedBlock 1 = .ok (.istore_n 3, 1) := by decide +kernel
theorem d_R_formedBlock_2 : decode b_R_formedBlock 2 = .ok (.iload_n 3, 1) := by decide +kernel
theorem d_R_formedBlock_3 : decode b_R_formedBlock 3 = .ok (.bipush 6, 2) := by decide +kernel
theorem d_R_formedBlock_5 : decode b_R_formedBlock 5 = .ok (.if_icmp .ge 47, 3) := by decide +kernel
theorem d_R_formedBlock_8 : decode b_R_formedBlock 8 = .ok (.aload_n 0, 1) := by decide +kernel
theorem d_R_formedBlock_9 : decode b_R_formedBlock 9 = .ok (.getfield 98, 3) := by decide +kernel
theorem d_R_formedBlock_12 : decode b_R_formedBlock 12 = .ok (.iload_n 3, 1) := by decide +kernel
theorem d_R_formedBlock_13 : decode b_R_formedBlock 13 = .ok (.aload_n 0, 1) := by decide +kernel
theorem d_R_formedBlock_14 : decode b_R_formedBlock 14 = .ok (.getfield 46, 3) := by decide +kernel
theorem d_R_formedBlock_17 : decode b_R_formedBlock 17 = .ok (.iload_n 1, 1) := by decide +kernel
theorem d_R_formedBlock_18 : decode b_R_formedBlock 18 = .ok (.iaload, 1) := by decide +kernel
theorem d_R_formedBlock_19 : decode b_R_formedBlock 19 = .ok (.iload_n 3, 1) := by decide +kernel
theorem d_R_formedBlock_20 : decode b_R_formedBlock 20 = .ok (.invokestatic 138, 3) := by decide +kernel
theorem d_R_formedBlock_23 : decode b_R_formedBlock 23 = .ok (.ifCond .eq 21, 3) := by decide +kernel
theorem d_R_formedBlock_26 : decode b_R_formedBlock 26 = .ok (.aload_n 0, 1) := by decide +kernel
theorem d_R_formedBlock_27 : decode b_R_formedBlock 27 = .ok (.aload_n 0, 1) := by decide +kernel
theorem d_R_formedBlock_28 : decode b_R_formedBlock 28 = .ok (.getfield 70, 3) := by decide +kernel
theorem d_R_formedBlock_31 : decode b_R_formedBlock 31 = .ok (.bipush 6, 2) := by decide +kernel
theorem d_R_formedBlock_33 : decode b_R_formedBlock 33 = .ok (.iload_n 2, 1) := by decide +kernel
theorem d_R_formedBlock_34 : decode b_R_formedBlock 34 = .ok (.imul, 1) := by decide +kernel
theorem d_R_formedBlock_35 : decode b_R_formedBlock 35 = .ok (.iload_n 3, 1) := by decide +kernel
theorem d_R_formedBlock_36 : decode b_R_formedBlock 36 = .ok (.iadd, 1) := by decide +kernel
theorem d_R_formedBlock_37 : decode b_R_formedBlock 37 = .ok (.iaload, 1) := by decide +kernel
theorem d_R_formedBlock_38 : decode b_R_formedBlock 38 = .ok (.invokevirtual 239, 3) := by decide +kernel
theorem d_R_formedBlock_41 : decode b_R_formedBlock 41 = .ok (.goto 4, 3) := by decide +kernel
theorem d_R_formedBlock_44 : decode b_R_formedBlock 44 = .ok (.iconst 0, 1) := by decide +kernel
theorem d_R_formedBlock_45 : decode b_R_formedBlock 45 = .ok (.iastore, 1) := by decide +kernel
theorem d_R_formedBlock_46 : decode b_R_formedBlock 46 = .ok (.iinc 3 1, 3) := by decide +kernel
theorem d_R_formedBlock_49 : decode b_R_formedBlock 49 = .ok (.goto (-47), 3) := by decide +kernel
theorem d_R_formedBlock_52 : decode b_R_formedBlock 52 = .ok (.iconst 0, 1) := by decide +kernel
theorem d_R_formedBlock_53 : decode b_R_formedBlock 53 = .ok (.istore_n 3, 1) := by decide +kernel
theorem d_R_formedBlock_54 : decode b_R_formedBlock 54 = .ok (.iload_n 3, 1) := by decide +kernel
theorem d_R_formedBlock_55 : decode b_R_formedBlock 55 = .ok (.bipush 6, 2) := by decide +kernel
theorem d_R_formedBlock_57 : decode b_R_formedBlock 57 = .ok (.if_icmp .ge 44, 3) := by decide +kernel
theorem d_R_formedBlock_60 : decode b_R_formedBlock 60 = .ok (.aload_n 0, 1) := by decide +kernel
theorem d_R_formedBlock_61 : decode b_R_formedBlock 61 = .ok (.getfield 46, 3) := by decide +kernel
theorem d_R_formedBlock_64 : decode b_R_formedBlock 64 = .ok (.iload_n 1, 1) := by decide +kernel
theorem d_R_formedBlock_65 : decode b_R_formedBlock 65 = .ok (.iaload, 1) := by decide +kernel
theorem d_R_formedBlock_66 : decode b_R_formedBlock 66 = .ok (.iload_n 3, 1) := by decide +kernel
theorem d_R_formedBlock_67 : decode b_R_formedBlock 67 = .ok (.invokestatic 138, 3) := by decide +kernel
theorem d_R_formedBlock_70 : decode b_R_formedBlock 70 = .ok (.ifCond .eq 25, 3) := by decide +kernel
theorem d_R_formedBlock_73 : decode b_R_formedBlock 73 = .ok (.aload_n 0, 1) := by decide +kernel
theorem d_R_formedBlock_74 : decode b_R_formedBlock 74 = .ok (.getfield 95, 3) := by decide +kernel
theorem d_R_formedBlock_77 : decode b_R_formedBlock 77 = .ok (.aload_n 0, 1) := by decide +kernel
theorem d_R_formedBlock_78 : decode b_R_formedBlock 78 = .ok (.getfield 55, 3) := by decide +kernel
theorem d_R_formedBlock_81 : decode b_R_formedBlock 81 = .ok (.bipush 6, 2) := by decide +kernel
theorem d_R_formedBlock_83 : decode b_R_formedBlock 83 = .ok (.iload_n 1, 1) := by decide +kernel
theorem d_R_formedBlock_84 : decode b_R_formedBlock 84 = .ok (.imul, 1) := by decide +kernel
theorem d_R_formedBlock_85 : decode b_R_formedBlock 85 = .ok (.iload_n 3, 1) := by decide +kernel
theorem d_R_formedBlock_86 : decode b_R_formedBlock 86 = .ok (.iadd, 1) := by decide +kernel
theorem d_R_formedBlock_87 : decode b_R_formedBlock 87 = .ok (.iaload, 1) := by decide +kernel
theorem d_R_formedBlock_88 : decode b_R_formedBlock 88 = .ok (.aload_n 0, 1) := by decide +kernel
theorem d_R_formedBlock_89 : decode b_R_formedBlock 89 = .ok (.getfield 98, 3) := by decide +kernel
theorem d_R_formedBlock_92 : decode b_R_formedBlock 92 = .ok (.iload_n 3, 1) := by decide +kernel
theorem d_R_formedBlock_93 : decode b_R_formedBlock 93 = .ok (.iaload, 1) := by decide +kernel
theorem d_R_formedBlock_94 : decode b_R_formedBlock 94 = .ok (.iastore, 1) := by decide +kernel
theorem d_R_formedBlock_95 : decode b_R_formedBlock 95 = .ok (.iinc 3 1, 3) := by decide +kernel
theorem d_R_formedBlock_98 : decode b_R_formedBlock 98 = .ok (.goto (-44), 3) := by decide +kernel
theorem d_R_formedBlock_101 : decode b_R_formedBlock 101 = .ok (.bipush 6, 2) := by decide +kernel
theorem d_R_formedBlock_103 : decode b_R_formedBlock 103 = .ok (.iload_n 1, 1) := by decide +kernel
theorem d_R_formedBlock_104 : decode b_R_formedBlock 104 = .ok (.imul, 1) := by decide +kernel
theorem d_R_formedBlock_105 : decode b_R_formedBlock 105 = .ok (.istore_n 3, 1) := by decide +kernel
theorem d_R_formedBlock_106 : decode b_R_formedBlock 106 = .ok (.iload_n 3, 1) := by decide +kernel
theorem d_R_formedBlock_107 : decode b_R_formedBlock 107 = .ok (.bipush 6, 2) := by decide +kernel
theorem d_R_formedBlock_109 : decode b_R_formedBlock 109 = .ok (.iload_n 1, 1) := by decide +kernel
theorem d_R_formedBlock_110 : decode b_R_formedBlock 110 = .ok (.imul, 1) := by decide +kernel
theorem d_R_formedBlock_111 : decode b_R_formedBlock 111 = .ok (.aload_n 0, 1) := by decide +kernel
theorem d_R_formedBlock_112 : decode b_R_formedBlock 112 = .ok (.getfield 7, 3) := by decide +kernel
theorem d_R_formedBlock_115 : decode b_R_formedBlock 115 = .ok (.iload_n 1, 1) := by decide +kernel
theorem d_R_formedBlock_116 : decode b_R_formedBlock 116 = .ok (.iaload, 1) := by decide +kernel
theorem d_R_formedBlock_117 : decode b_R_formedBlock 117 = .ok (.iadd, 1) := by decide +kernel
theorem d_R_formedBlock_118 : decode b_R_formedBlock 118 = .ok (.if_icmp .ge 169, 3) := by decide +kernel
theorem d_R_formedBlock_121 : decode b_R_formedBlock 121 = .ok (.aload_n 0, 1) := by decide +kernel
theorem d_R_formedBlock_122 : decode b_R_formedBlock 122 = .ok (.getfield 58, 3) := by decide +kernel
theorem d_R_formedBlock_125 : decode b_R_formedBlock 125 = .ok (.iload_n 3, 1) := by decide +kernel
theorem d_R_formedBlock_126 : decode b_R_formedBlock 126 = .ok (.iaload, 1) := by decide +kernel
theorem d_R_formedBlock_127 : decode b_R_formedBlock 127 = .ok (.istore 4, 2) := by decide +kernel
theorem d_R_formedBlock_129 : decode b_R_formedBlock 129 = .ok (.aload_n 0, 1) := by decide +kernel
theorem d_R_formedBlock_130 : decode b_R_formedBlock 130 = .ok (.getfield 13, 3) := by decide +kernel
theorem d_R_formedBlock_133 : decode b_R_formedBlock 133 = .ok (.iload_n 3, 1) := by decide +kernel
theorem d_R_formedBlock_134 : decode b_R_formedBlock 134 = .ok (.iaload, 1) := by decide +kernel
theorem d_R_formedBlock_135 : decode b_R_formedBlock 135 = .ok (.bipush 7, 2) := by decide +kernel
theorem d_R_formedBlock_137 : decode b_R_formedBlock 137 = .ok (.if_icmp .ne 30, 3) := by decide +kernel
theorem d_R_formedBlock_140 : decode b_R_formedBlock 140 = .ok (.aload_n 0, 1) := by decide +kernel
theorem d_R_formedBlock_141 : decode b_R_formedBlock 141 = .ok (.dup, 1) := by decide +kernel
theorem d_R_formedBlock_142 : decode b_R_formedBlock 142 = .ok (.getfield 230, 3) := by decide +kernel
theorem d_R_formedBlock_145 : decode b_R_formedBlock 145 = .ok (.iconst 1, 1) := by decide +kernel
theorem d_R_formedBlock_146 : decode b_R_formedBlock 146 = .ok (.iadd, 1) := by decide +kernel
theorem d_R_formedBlock_147 : decode b_R_formedBlock 147 = .ok (.putfield 230, 3) := by decide +kernel
theorem d_R_formedBlock_150 : decode b_R_formedBlock 150 = .ok (.aload_n 0, 1) := by decide +kernel
theorem d_R_formedBlock_151 : decode b_R_formedBlock 151 = .ok (.aload_n 0, 1) := by decide +kernel
theorem d_R_formedBlock_152 : decode b_R_formedBlock 152 = .ok (.aload_n 0, 1) := by decide +kernel
theorem d_R_formedBlock_153 : decode b_R_formedBlock 153 = .ok (.getfield 61, 3) := by decide +kernel
theorem d_R_formedBlock_156 : decode b_R_formedBlock 156 = .ok (.iload_n 3, 1) := by decide +kernel
theorem d_R_formedBlock_157 : decode b_R_formedBlock 157 = .ok (.iaload, 1) := by decide +kernel
theorem d_R_formedBlock_158 : decode b_R_formedBlock 158 = .ok (.invokevirtual 239, 3) := by decide +kernel
theorem d_R_formedBlock_161 : decode b_R_formedBlock 161 = .ok (.invokevirtual 233, 3) := by decide +kernel
theorem d_R_formedBlock_164 : decode b_R_formedBlock 164 = .ok (.goto 117, 3) := by decide +kernel
theorem d_R_formedBlock_167 : decode b_R_formedBlock 167 = .ok (.aload_n 0, 1) := by decide +kernel
theorem d_R_formedBlock_168 : decode b_R_formedBlock 168 = .ok (.getfield 85, 3) := by decide +kernel
theorem d_R_formedBlock_171 : decode b_R_formedBlock 171 = .ok (.iload 4, 2) := by decide +kernel
theorem d_R_formedBlock_173 : decode b_R_formedBlock 173 = .ok (.baload, 1) := by decide +kernel
theorem d_R_formedBlock_174 : decode b_R_formedBlock 174 = .ok (.ifCond .eq 107, 3) := by decide +kernel
theorem d_R_formedBlock_177 : decode b_R_formedBlock 177 = .ok (.aload_n 0, 1) := by decide +kernel
theorem d_R_formedBlock_178 : decode b_R_formedBlock 178 = .ok (.getfield 79, 3) := by decide +kernel
theorem d_R_formedBlock_181 : decode b_R_formedBlock 181 = .ok (.iload 4, 2) := by decide +kernel
theorem d_R_formedBlock_183 : decode b_R_formedBlock 183 = .ok (.iaload, 1) := by decide +kernel
theorem d_R_formedBlock_184 : decode b_R_formedBlock 184 = .ok (.iconst 1, 1) := by decide +kernel
theorem d_R_formedBlock_185 : decode b_R_formedBlock 185 = .ok (.if_icmp .eq 96, 3) := by decide +kernel
theorem d_R_formedBlock_188 : decode b_R_formedBlock 188 = .ok (.aload_n 0, 1) := by decide +kernel
theorem d_R_formedBlock_189 : decode b_R_formedBlock 189 = .ok (.dup, 1) := by decide +kernel
theorem d_R_formedBlock_190 : decode b_R_formedBlock 190 = .ok (.getfield 230, 3) := by decide +kernel
theorem d_R_formedBlock_193 : decode b_R_formedBlock 193 = .ok (.iconst 1, 1) := by decide +kernel
theorem d_R_formedBlock_194 : decode b_R_formedBlock 194 = .ok (.iadd, 1) := by decide +kernel
theorem d_R_formedBlock_195 : decode b_R_formedBlock 195 = .ok (.putfield 230, 3) := by decide +kernel
theorem d_R_formedBlock_198 : decode b_R_formedBlock 198 = .ok (.aload_n 0, 1) := by decide +kernel
theorem d_R_formedBlock_199 : decode b_R_formedBlock 199 = .ok (.getfield 13, 3) := by decide +kernel
theorem d_R_formedBlock_202 : decode b_R_formedBlock 202 = .ok (.iload_n 3, 1) := by decide +kernel
theorem d_R_formedBlock_203 : decode b_R_formedBlock 203 = .ok (.iaload, 1) := by decide +kernel
theorem d_R_formedBlock_204 : decode b_R_formedBlock 204 = .ok (.istore 5, 2) := by decide +kernel
theorem d_R_formedBlock_206 : decode b_R_formedBlock 206 = .ok (.aload_n 0, 1) := by decide +kernel
theorem d_R_formedBlock_207 : decode b_R_formedBlock 207 = .ok (.getfield 61, 3) := by decide +kernel
theorem d_R_formedBlock_210 : decode b_R_formedBlock 210 = .ok (.iload_n 3, 1) := by decide +kernel
theorem d_R_formedBlock_211 : decode b_R_formedBlock 211 = .ok (.iaload, 1) := by decide +kernel
theorem d_R_formedBlock_212 : decode b_R_formedBlock 212 = .ok (.ifCond .ge 7, 3) := by decide +kernel
theorem d_R_formedBlock_215 : decode b_R_formedBlock 215 = .ok (.iconst 0, 1) := by decide +kernel
theorem d_R_formedBlock_216 : decode b_R_formedBlock 216 = .ok (.goto 13, 3) := by decide +kernel
theorem d_R_formedBlock_219 : decode b_R_formedBlock 219 = .ok (.aload_n 0, 1) := by decide +kernel
theorem d_R_formedBlock_220 : decode b_R_formedBlock 220 = .ok (.aload_n 0, 1) := by decide +kernel
theorem d_R_formedBlock_221 : decode b_R_formedBlock 221 = .ok (.getfield 61, 3) := by decide +kernel
theorem d_R_formedBlock_224 : decode b_R_formedBlock 224 = .ok (.iload_n 3, 1) := by decide +kernel
theorem d_R_formedBlock_225 : decode b_R_formedBlock 225 = .ok (.iaload, 1) := by decide +kernel
theorem d_R_formedBlock_226 : decode b_R_formedBlock 226 = .ok (.invokevirtual 239, 3) := by decide +kernel
theorem d_R_formedBlock_229 : decode b_R_formedBlock 229 = .ok (.istore 6, 2) := by decide +kernel
theorem d_R_formedBlock_231 : decode b_R_formedBlock 231 = .ok (.aload_n 0, 1) := by decide +kernel
theorem d_R_formedBlock_232 : decode b_R_formedBlock 232 = .ok (.getfield 95, 3) := by decide +kernel
theorem d_R_formedBlock_235 : decode b_R_formedBlock 235 = .ok (.iload 4, 2) := by decide +kernel
theorem d_R_formedBlock_237 : decode b_R_formedBlock 237 = .ok (.iload 5, 2) := by decide +kernel
theorem d_R_formedBlock_239 : decode b_R_formedBlock 239 = .ok (.bipush 6, 2) := by decide +kernel
theorem d_R_formedBlock_241 : decode b_R_formedBlock 241 = .ok (.if_icmp .ne 10, 3) := by decide +kernel
theorem d_R_formedBlock_244 : decode b_R_formedBlock 244 = .ok (.aload_n 0, 1) := by decide +kernel
theorem d_R_formedBlock_245 : decode b_R_formedBlock 245 = .ok (.invokevirtual 226, 3) := by decide +kernel
theorem d_R_formedBlock_248 : decode b_R_formedBlock 248 = .ok (.goto 32, 3) := by decide +kernel
theorem d_R_formedBlock_251 : decode b_R_formedBlock 251 = .ok (.iload 5, 2) := by decide +kernel
theorem d_R_formedBlock_253 : decode b_R_formedBlock 253 = .ok (.iconst 1, 1) := by decide +kernel
theorem d_R_formedBlock_254 : decode b_R_formedBlock 254 = .ok (.if_icmp .ne 8, 3) := by decide +kernel
theorem d_R_formedBlock_257 : decode b_R_formedBlock 257 = .ok (.iload 6, 2) := by decide +kernel
theorem d_R_formedBlock_259 : decode b_R_formedBlock 259 = .ok (.goto 21, 3) := by decide +kernel
theorem d_R_formedBlock_262 : decode b_R_formedBlock 262 = .ok (.aload_n 0, 1) := by decide +kernel
theorem d_R_formedBlock_263 : decode b_R_formedBlock 263 = .ok (.iload 5, 2) := by decide +kernel
theorem d_R_formedBlock_265 : decode b_R_formedBlock 265 = .ok (.iload 6, 2) := by decide +kernel
theorem d_R_formedBlock_267 : decode b_R_formedBlock 267 = .ok (.aload_n 0, 1) := by decide +kernel
theorem d_R_formedBlock_268 : decode b_R_formedBlock 268 = .ok (.aload_n 0, 1) := by decide +kernel
theorem d_R_formedBlock_269 : decode b_R_formedBlock 269 = .ok (.getfield 64, 3) := by decide +kernel
theorem d_R_formedBlock_272 : decode b_R_formedBlock 272 = .ok (.iload_n 3, 1) := by decide +kernel
theorem d_R_formedBlock_273 : decode b_R_formedBlock 273 = .ok (.iaload, 1) := by decide +kernel
theorem d_R_formedBlock_274 : decode b_R_formedBlock 274 = .ok (.invokevirtual 239, 3) := by decide +kernel
theorem d_R_formedBlock_277 : decode b_R_formedBlock 277 = .ok (.invokevirtual 173, 3) := by decide +kernel
theorem d_R_formedBlock_280 : decode b_R_formedBlock 280 = .ok (.iastore, 1) := by decide +kernel
theorem d_R_formedBlock_281 : decode b_R_formedBlock 281 = .ok (.iinc 3 1, 3) := by decide +kernel
