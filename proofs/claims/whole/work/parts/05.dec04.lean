theorem d_M_greatest_42 : decode b_M_greatest 42 = .ok (.iload_n 2, 1) := by decide +kernel
theorem d_M_greatest_43 : decode b_M_greatest 43 = .ok (.invokevirtual 50, 3) := by decide +kernel
theorem d_M_greatest_46 : decode b_M_greatest 46 = .ok (.iadd, 1) := by decide +kernel
theorem d_M_greatest_47 : decode b_M_greatest 47 = .ok (.istore_n 2, 1) := by decide +kernel
theorem d_M_greatest_48 : decode b_M_greatest 48 = .ok (.goto (-44), 3) := by decide +kernel
theorem d_M_greatest_51 : decode b_M_greatest 51 = .ok (.iload_n 1, 1) := by decide +kernel
theorem d_M_greatest_52 : decode b_M_greatest 52 = .ok (.ireturn, 1) := by decide +kernel
theorem d_M_count_0 : decode b_M_count 0 = .ok (.aload_n 0, 1) := by decide +kernel
theorem d_M_count_1 : decode b_M_count 1 = .ok (.iload_n 1, 1) := by decide +kernel
theorem d_M_count_2 : decode b_M_count 2 = .ok (.ifCond .lt 13, 3) := by decide +kernel
theorem d_M_count_5 : decode b_M_count 5 = .ok (.iload_n 1, 1) := by decide +kernel
theorem d_M_count_6 : decode b_M_count 6 = .ok (.bipush 10, 2) := by decide +kernel
theorem d_M_count_8 : decode b_M_count 8 = .ok (.if_icmp .gt 7, 3) := by decide +kernel
theorem d_M_count_11 : decode b_M_count 11 = .ok (.iconst 1, 1) := by decide +kernel
theorem d_M_count_12 : decode b_M_count 12 = .ok (.goto 4, 3) := by decide +kernel
theorem d_M_count_15 : decode b_M_count 15 = .ok (.iconst 0, 1) := by decide +kernel
theorem d_M_count_16 : decode b_M_count 16 = .ok (.iconst 1, 1) := by decide +kernel
theorem d_M_count_17 : decode b_M_count 17 = .ok (.invokevirtual 30, 3) := by decide +kernel
theorem d_M_count_20 : decode b_M_count 20 = .ok (.ifCond .ne 5, 3) := by decide +kernel
theorem d_M_count_23 : decode b_M_count 23 = .ok (.iconst 0, 1) := by decide +kernel
theorem d_M_count_24 : decode b_M_count 24 = .ok (.ireturn, 1) := by decide +kernel
theorem d_M_count_25 : decode b_M_count 25 = .ok (.iconst 0, 1) := by decide +kernel
theorem d_M_count_26 : decode b_M_count 26 = .ok (.istore_n 2, 1) := by decide +kernel
theorem d_M_count_27 : decode b_M_count 27 = .ok (.iconst 0, 1) := by decide +kernel
theorem d_M_count_28 : decode b_M_count 28 = .ok (.istore_n 3, 1) := by decide +kernel
theorem d_M_count_29 : decode b_M_count 29 = .ok (.iconst 0, 1) := by decide +kernel
theorem d_M_count_30 : decode b_M_count 30 = .ok (.istore 4, 2) := by decide +kernel
theorem d_M_count_32 : decode b_M_count 32 = .ok (.iconst 0, 1) := by decide +kernel
theorem d_M_count_33 : decode b_M_count 33 = .ok (.istore 5, 2) := by decide +kernel
theorem d_M_count_35 : decode b_M_count 35 = .ok (.iconst 0, 1) := by decide +kernel
theorem d_M_count_36 : decode b_M_count 36 = .ok (.istore 6, 2) := by decide +kernel
theorem d_M_count_38 : decode b_M_count 38 = .ok (.iconst 1, 1) := by decide +kernel
theorem d_M_count_39 : decode b_M_count 39 = .ok (.istore 7, 2) := by decide +kernel
theorem d_M_count_41 : decode b_M_count 41 = .ok (.iload 7, 2) := by decide +kernel
theorem d_M_count_43 : decode b_M_count 43 = .ok (.aload_n 0, 1) := by decide +kernel
theorem d_M_count_44 : decode b_M_count 44 = .ok (.getfield 7, 3) := by decide +kernel
theorem d_M_count_47 : decode b_M_count 47 = .ok (.if_icmp .gt 152, 3) := by decide +kernel
theorem d_M_count_50 : decode b_M_count 50 = .ok (.aload_n 0, 1) := by decide +kernel
theorem d_M_count_51 : decode b_M_count 51 = .ok (.getfield 13, 3) := by decide +kernel
theorem d_M_count_54 : decode b_M_count 54 = .ok (.iload 7, 2) := by decide +kernel
theorem d_M_count_56 : decode b_M_count 56 = .ok (.iaload, 1) := by decide +kernel
theorem d_M_count_57 : decode b_M_count 57 = .ok (.ifCond .le 9, 3) := by decide +kernel
theorem d_M_count_60 : decode b_M_count 60 = .ok (.iload_n 3, 1) := by decide +kernel
theorem d_M_count_61 : decode b_M_count 61 = .ok (.iconst 1, 1) := by decide +kernel
theorem d_M_count_62 : decode b_M_count 62 = .ok (.iadd, 1) := by decide +kernel
theorem d_M_count_63 : decode b_M_count 63 = .ok (.goto 4, 3) := by decide +kernel
theorem d_M_count_66 : decode b_M_count 66 = .ok (.iload_n 3, 1) := by decide +kernel
theorem d_M_count_67 : decode b_M_count 67 = .ok (.istore_n 3, 1) := by decide +kernel
theorem d_M_count_68 : decode b_M_count 68 = .ok (.aload_n 0, 1) := by decide +kernel
theorem d_M_count_69 : decode b_M_count 69 = .ok (.getfield 13, 3) := by decide +kernel
theorem d_M_count_72 : decode b_M_count 72 = .ok (.iload 7, 2) := by decide +kernel
theorem d_M_count_74 : decode b_M_count 74 = .ok (.iaload, 1) := by decide +kernel
theorem d_M_count_75 : decode b_M_count 75 = .ok (.ifCond .ge 14, 3) := by decide +kernel
theorem d_M_count_78 : decode b_M_count 78 = .ok (.iload_n 2, 1) := by decide +kernel
theorem d_M_count_79 : decode b_M_count 79 = .ok (.aload_n 0, 1) := by decide +kernel
theorem d_M_count_80 : decode b_M_count 80 = .ok (.iload 7, 2) := by decide +kernel
theorem d_M_count_82 : decode b_M_count 82 = .ok (.invokevirtual 50, 3) := by decide +kernel
theorem d_M_count_85 : decode b_M_count 85 = .ok (.iadd, 1) := by decide +kernel
theorem d_M_count_86 : decode b_M_count 86 = .ok (.goto 4, 3) := by decide +kernel
theorem d_M_count_89 : decode b_M_count 89 = .ok (.iload_n 2, 1) := by decide +kernel
theorem d_M_count_90 : decode b_M_count 90 = .ok (.istore_n 2, 1) := by decide +kernel
theorem d_M_count_91 : decode b_M_count 91 = .ok (.aload_n 0, 1) := by decide +kernel
theorem d_M_count_92 : decode b_M_count 92 = .ok (.getfield 13, 3) := by decide +kernel
theorem d_M_count_95 : decode b_M_count 95 = .ok (.iload 7, 2) := by decide +kernel
theorem d_M_count_97 : decode b_M_count 97 = .ok (.iaload, 1) := by decide +kernel
theorem d_M_count_98 : decode b_M_count 98 = .ok (.bipush (-3), 2) := by decide +kernel
theorem d_M_count_100 : decode b_M_count 100 = .ok (.if_icmp .gt 10, 3) := by decide +kernel
theorem d_M_count_103 : decode b_M_count 103 = .ok (.iload 4, 2) := by decide +kernel
theorem d_M_count_105 : decode b_M_count 105 = .ok (.iconst 1, 1) := by decide +kernel
theorem d_M_count_106 : decode b_M_count 106 = .ok (.iadd, 1) := by decide +kernel
theorem d_M_count_107 : decode b_M_count 107 = .ok (.goto 5, 3) := by decide +kernel
theorem d_M_count_110 : decode b_M_count 110 = .ok (.iload 4, 2) := by decide +kernel
theorem d_M_count_112 : decode b_M_count 112 = .ok (.istore 4, 2) := by decide +kernel
theorem d_M_count_114 : decode b_M_count 114 = .ok (.aload_n 0, 1) := by decide +kernel
theorem d_M_count_115 : decode b_M_count 115 = .ok (.getfield 13, 3) := by decide +kernel
theorem d_M_count_118 : decode b_M_count 118 = .ok (.iload 7, 2) := by decide +kernel
theorem d_M_count_120 : decode b_M_count 120 = .ok (.iaload, 1) := by decide +kernel
theorem d_M_count_121 : decode b_M_count 121 = .ok (.ifCond .ge 22, 3) := by decide +kernel
theorem d_M_count_124 : decode b_M_count 124 = .ok (.aload_n 0, 1) := by decide +kernel
theorem d_M_count_125 : decode b_M_count 125 = .ok (.getfield 13, 3) := by decide +kernel
theorem d_M_count_128 : decode b_M_count 128 = .ok (.iload 7, 2) := by decide +kernel
theorem d_M_count_130 : decode b_M_count 130 = .ok (.iaload, 1) := by decide +kernel
theorem d_M_count_131 : decode b_M_count 131 = .ok (.bipush (-3), 2) := by decide +kernel
theorem d_M_count_133 : decode b_M_count 133 = .ok (.if_icmp .le 10, 3) := by decide +kernel
theorem d_M_count_136 : decode b_M_count 136 = .ok (.iload 5, 2) := by decide +kernel
theorem d_M_count_138 : decode b_M_count 138 = .ok (.iconst 1, 1) := by decide +kernel
theorem d_M_count_139 : decode b_M_count 139 = .ok (.iadd, 1) := by decide +kernel
theorem d_M_count_140 : decode b_M_count 140 = .ok (.goto 5, 3) := by decide +kernel
theorem d_M_count_143 : decode b_M_count 143 = .ok (.iload 5, 2) := by decide +kernel
theorem d_M_count_145 : decode b_M_count 145 = .ok (.istore 5, 2) := by decide +kernel
theorem d_M_count_147 : decode b_M_count 147 = .ok (.aload_n 0, 1) := by decide +kernel
theorem d_M_count_148 : decode b_M_count 148 = .ok (.getfield 13, 3) := by decide +kernel
theorem d_M_count_151 : decode b_M_count 151 = .ok (.iload 7, 2) := by decide +kernel
theorem d_M_count_153 : decode b_M_count 153 = .ok (.iaload, 1) := by decide +kernel
theorem d_M_count_154 : decode b_M_count 154 = .ok (.ifCond .ge 27, 3) := by decide +kernel
theorem d_M_count_157 : decode b_M_count 157 = .ok (.aload_n 0, 1) := by decide +kernel
theorem d_M_count_158 : decode b_M_count 158 = .ok (.getfield 13, 3) := by decide +kernel
theorem d_M_count_161 : decode b_M_count 161 = .ok (.iload 7, 2) := by decide +kernel
theorem d_M_count_163 : decode b_M_count 163 = .ok (.iaload, 1) := by decide +kernel
theorem d_M_count_164 : decode b_M_count 164 = .ok (.bipush (-3), 2) := by decide +kernel
theorem d_M_count_166 : decode b_M_count 166 = .ok (.if_icmp .le 15, 3) := by decide +kernel
theorem d_M_count_169 : decode b_M_count 169 = .ok (.iload 6, 2) := by decide +kernel
theorem d_M_count_171 : decode b_M_count 171 = .ok (.aload_n 0, 1) := by decide +kernel
theorem d_M_count_172 : decode b_M_count 172 = .ok (.iload 7, 2) := by decide +kernel
theorem d_M_count_174 : decode b_M_count 174 = .ok (.invokevirtual 50, 3) := by decide +kernel
theorem d_M_count_177 : decode b_M_count 177 = .ok (.iadd, 1) := by decide +kernel
theorem d_M_count_178 : decode b_M_count 178 = .ok (.goto 5, 3) := by decide +kernel
theorem d_M_count_181 : decode b_M_count 181 = .ok (.iload 6, 2) := by decide +kernel
theorem d_M_count_183 : decode b_M_count 183 = .ok (.istore 6, 2) := by decide +kernel
theorem d_M_count_185 : decode b_M_count 185 = .ok (.iload 7, 2) := by decide +kernel
theorem d_M_count_187 : decode b_M_count 187 = .ok (.aload_n 0, 1) := by decide +kernel
theorem d_M_count_188 : decode b_M_count 188 = .ok (.iload 7, 2) := by decide +kernel
theorem d_M_count_190 : decode b_M_count 190 = .ok (.invokevirtual 50, 3) := by decide +kernel
theorem d_M_count_193 : decode b_M_count 193 = .ok (.iadd, 1) := by decide +kernel
theorem d_M_count_194 : decode b_M_count 194 = .ok (.istore 7, 2) := by decide +kernel
theorem d_M_count_196 : decode b_M_count 196 = .ok (.goto (-155), 3) := by decide +kernel
theorem d_M_count_199 : decode b_M_count 199 = .ok (.iload_n 1, 1) := by decide +kernel
theorem d_M_count_200 : decode b_M_count 200 = .ok (.tableswitch 94 0 9 #[56, 58, 61, 63, 66, 69, 74, 79, 84, 89], 56) := by decide +kernel
theorem d_M_count_256 : decode b_M_count 256 = .ok (.iload_n 2, 1) := by decide +kernel
theorem d_M_count_257 : decode b_M_count 257 = .ok (.ireturn, 1) := by decide +kernel
theorem d_M_count_258 : decode b_M_count 258 = .ok (.iload 6, 2) := by decide +kernel
theorem d_M_count_260 : decode b_M_count 260 = .ok (.ireturn, 1) := by decide +kernel
theorem d_M_count_261 : decode b_M_count 261 = .ok (.iload_n 3, 1) := by decide +kernel
theorem d_M_count_262 : decode b_M_count 262 = .ok (.ireturn, 1) := by decide +kernel
theorem d_M_count_263 : decode b_M_count 263 = .ok (.iload 4, 2) := by decide +kernel
theorem d_M_count_265 : decode b_M_count 265 = .ok (.ireturn, 1) := by decide +kernel
theorem d_M_count_266 : decode b_M_count 266 = .ok (.iload 5, 2) := by decide +kernel
theorem d_M_count_268 : decode b_M_count 268 = .ok (.ireturn, 1) := by decide +kernel
theorem d_M_count_269 : decode b_M_count 269 = .ok (.aload_n 0, 1) := by decide +kernel
theorem d_M_count_270 : decode b_M_count 270 = .ok (.invokevirtual 67, 3) := by decide +kernel
theorem d_M_count_273 : decode b_M_count 273 = .ok (.ireturn, 1) := by decide +kernel
theorem d_M_count_274 : decode b_M_count 274 = .ok (.aload_n 0, 1) := by decide +kernel
theorem d_M_count_275 : decode b_M_count 275 = .ok (.getfield 34, 3) := by decide +kernel
theorem d_M_count_278 : decode b_M_count 278 = .ok (.ireturn, 1) := by decide +kernel
theorem d_M_count_279 : decode b_M_count 279 = .ok (.aload_n 0, 1) := by decide +kernel
theorem d_M_count_280 : decode b_M_count 280 = .ok (.getfield 7, 3) := by decide +kernel
theorem d_M_count_283 : decode b_M_count 283 = .ok (.ireturn, 1) := by decide +kernel
theorem d_M_count_284 : decode b_M_count 284 = .ok (.aload_n 0, 1) := by decide +kernel
theorem d_M_count_285 : decode b_M_count 285 = .ok (.invokevirtual 61, 3) := by decide +kernel
theorem d_M_count_288 : decode b_M_count 288 = .ok (.ireturn, 1) := by decide +kernel
theorem d_M_count_289 : decode b_M_count 289 = .ok (.aload_n 0, 1) := by decide +kernel
theorem d_M_count_290 : decode b_M_count 290 = .ok (.getfield 37, 3) := by decide +kernel
theorem d_M_count_293 : decode b_M_count 293 = .ok (.ireturn, 1) := by decide +kernel
theorem d_M_count_294 : decode b_M_count 294 = .ok (.aload_n 0, 1) := by decide +kernel
theorem d_M_count_295 : decode b_M_count 295 = .ok (.getfield 40, 3) := by decide +kernel
theorem d_M_count_298 : decode b_M_count 298 = .ok (.ireturn, 1) := by decide +kernel
theorem d_M_faults_0 : decode b_M_faults 0 = .ok (.aload_n 0, 1) := by decide +kernel
theorem d_M_faults_1 : decode b_M_faults 1 = .ok (.iconst 0, 1) := by decide +kernel
theorem d_M_faults_2 : decode b_M_faults 2 = .ok (.putfield 24, 3) := by decide +kernel
theorem d_M_faults_5 : decode b_M_faults 5 = .ok (.iconst 0, 1) := by decide +kernel
theorem d_M_faults_6 : decode b_M_faults 6 = .ok (.ireturn, 1) := by decide +kernel
theorem d_P_init_0 : decode b_P_init 0 = .ok (.aload_n 0, 1) := by decide +kernel
theorem d_P_init_1 : decode b_P_init 1 = .ok (.invokespecial 3, 3) := by decide +kernel
theorem d_P_init_4 : decode b_P_init 4 = .ok (.aload_n 0, 1) := by decide +kernel
theorem d_P_init_5 : decode b_P_init 5 = .ok (.iload_n 1, 1) := by decide +kernel
theorem d_P_init_6 : decode b_P_init 6 = .ok (.putfield 9, 3) := by decide +kernel
theorem d_P_init_9 : decode b_P_init 9 = .ok (.aload_n 0, 1) := by decide +kernel
theorem d_P_init_10 : decode b_P_init 10 = .ok (.iload_n 2, 1) := by decide +kernel
theorem d_P_init_11 : decode b_P_init 11 = .ok (.putfield 15, 3) := by decide +kernel
theorem d_P_init_14 : decode b_P_init 14 = .ok (.aload_n 0, 1) := by decide +kernel
theorem d_P_init_15 : decode b_P_init 15 = .ok (.aload_n 3, 1) := by decide +kernel
theorem d_P_init_16 : decode b_P_init 16 = .ok (.putfield 18, 3) := by decide +kernel
theorem d_P_init_19 : decode b_P_init 19 = .ok (.return_, 1) := by decide +kernel
theorem d_P_end_0 : decode b_P_end 0 = .ok (.aload_n 0, 1) := by decide +kernel
theorem d_P_end_1 : decode b_P_end 1 = .ok (.getfield 9, 3) := by decide +kernel
theorem d_P_end_4 : decode b_P_end 4 = .ok (.aload_n 0, 1) := by decide +kernel
theorem d_P_end_5 : decode b_P_end 5 = .ok (.getfield 15, 3) := by decide +kernel
theorem d_P_end_8 : decode b_P_end 8 = .ok (.iadd, 1) := by decide +kernel
theorem d_P_end_9 : decode b_P_end 9 = .ok (.ireturn, 1) := by decide +kernel
theorem d_P_isCrumb_0 : decode b_P_isCrumb 0 = .ok (.aload_n 0, 1) := by decide +kernel
theorem d_P_isCrumb_1 : decode b_P_isCrumb 1 = .ok (.getfield 22, 3) := by decide +kernel
theorem d_P_isCrumb_4 : decode b_P_isCrumb 4 = .ok (.ifCond .ne 15, 3) := by decide +kernel
theorem d_P_isCrumb_7 : decode b_P_isCrumb 7 = .ok (.aload_n 0, 1) := by decide +kernel
theorem d_P_isCrumb_8 : decode b_P_isCrumb 8 = .ok (.getfield 15, 3) := by decide +kernel
theorem d_P_isCrumb_11 : decode b_P_isCrumb 11 = .ok (.iconst 2, 1) := by decide +kernel
theorem d_P_isCrumb_12 : decode b_P_isCrumb 12 = .ok (.if_icmp .gt 7, 3) := by decide +kernel
theorem d_P_isCrumb_15 : decode b_P_isCrumb 15 = .ok (.iconst 1, 1) := by decide +kernel
theorem d_P_isCrumb_16 : decode b_P_isCrumb 16 = .ok (.goto 4, 3) := by decide +kernel
theorem d_P_isCrumb_19 : decode b_P_isCrumb 19 = .ok (.iconst 0, 1) := by decide +kernel
theorem d_P_isCrumb_20 : decode b_P_isCrumb 20 = .ok (.ireturn, 1) := by decide +kernel
theorem d_P_isFreeForTaking_0 : decode b_P_isFreeForTaking 0 = .ok (.aload_n 0, 1) := by decide +kernel
theorem d_P_isFreeForTaking_1 : decode b_P_isFreeForTaking 1 = .ok (.getfield 22, 3) := by decide +kernel
theorem d_P_isFreeForTaking_4 : decode b_P_isFreeForTaking 4 = .ok (.ifCond .ne 15, 3) := by decide +kernel
theorem d_P_isFreeForTaking_7 : decode b_P_isFreeForTaking 7 = .ok (.aload_n 0, 1) := by decide +kernel
theorem d_P_isFreeForTaking_8 : decode b_P_isFreeForTaking 8 = .ok (.getfield 15, 3) := by decide +kernel
theorem d_P_isFreeForTaking_11 : decode b_P_isFreeForTaking 11 = .ok (.iconst 2, 1) := by decide +kernel
theorem d_P_isFreeForTaking_12 : decode b_P_isFreeForTaking 12 = .ok (.if_icmp .le 7, 3) := by decide +kernel
theorem d_P_isFreeForTaking_15 : decode b_P_isFreeForTaking 15 = .ok (.iconst 1, 1) := by decide +kernel
theorem d_P_isFreeForTaking_16 : decode b_P_isFreeForTaking 16 = .ok (.goto 4, 3) := by decide +kernel
theorem d_P_isFreeForTaking_19 : decode b_P_isFreeForTaking 19 = .ok (.iconst 0, 1) := by decide +kernel
theorem d_P_isFreeForTaking_20 : decode b_P_isFreeForTaking 20 = .ok (.ireturn, 1) := by decide +kernel
theorem d_P_isKeptBySweep_0 : decode b_P_isKeptBySweep 0 = .ok (.aload_n 0, 1) := by decide +kernel
theorem d_P_isKeptBySweep_1 : decode b_P_isKeptBySweep 1 = .ok (.getfield 22, 3) := by decide +kernel
theorem d_P_isKeptBySweep_4 : decode b_P_isKeptBySweep 4 = .ok (.ifCond .eq 14, 3) := by decide +kernel
theorem d_P_isKeptBySweep_7 : decode b_P_isKeptBySweep 7 = .ok (.aload_n 0, 1) := by decide +kernel
theorem d_P_isKeptBySweep_8 : decode b_P_isKeptBySweep 8 = .ok (.getfield 26, 3) := by decide +kernel
theorem d_P_isKeptBySweep_11 : decode b_P_isKeptBySweep 11 = .ok (.ifCond .eq 7, 3) := by decide +kernel
theorem d_P_isKeptBySweep_14 : decode b_P_isKeptBySweep 14 = .ok (.iconst 1, 1) := by decide +kernel
theorem d_P_isKeptBySweep_15 : decode b_P_isKeptBySweep 15 = .ok (.goto 4, 3) := by decide +kernel
theorem d_P_isKeptBySweep_18 : decode b_P_isKeptBySweep 18 = .ok (.iconst 0, 1) := by decide +kernel
theorem d_P_isKeptBySweep_19 : decode b_P_isKeptBySweep 19 = .ok (.ireturn, 1) := by decide +kernel
theorem d_L_space_0 : decode b_L_space 0 = .ok (.aload_n 2, 1) := by decide +kernel
theorem d_L_space_1 : decode b_L_space 1 = .ok (.iconst 0, 1) := by decide +kernel
theorem d_L_space_2 : decode b_L_space 2 = .ok (.aload_n 0, 1) := by decide +kernel
theorem d_L_space_3 : decode b_L_space 3 = .ok (.iload_n 1, 1) := by decide +kernel
theorem d_L_space_4 : decode b_L_space 4 = .ok (.invokevirtual 7, 3) := by decide +kernel
theorem d_L_space_7 : decode b_L_space 7 = .ok (.i2l, 1) := by decide +kernel
theorem d_L_space_8 : decode b_L_space 8 = .ok (.lastore, 1) := by decide +kernel
theorem d_L_space_9 : decode b_L_space 9 = .ok (.goto 6, 3) := by decide +kernel
theorem d_L_space_12 : decode b_L_space 12 = .ok (.astore_n 3, 1) := by decide +kernel
theorem d_L_space_13 : decode b_L_space 13 = .ok (.iconst 1, 1) := by decide +kernel
theorem d_L_space_14 : decode b_L_space 14 = .ok (.ireturn, 1) := by decide +kernel
theorem d_L_space_15 : decode b_L_space 15 = .ok (.iconst 0, 1) := by decide +kernel
theorem d_L_space_16 : decode b_L_space 16 = .ok (.ireturn, 1) := by decide +kernel
theorem d_L_take_0 : decode b_L_take 0 = .ok (.aload_n 2, 1) := by decide +kernel
theorem d_L_take_1 : decode b_L_take 1 = .ok (.iconst 0, 1) := by decide +kernel
theorem d_L_take_2 : decode b_L_take 2 = .ok (.aload_n 0, 1) := by decide +kernel
theorem d_L_take_3 : decode b_L_take 3 = .ok (.iload_n 1, 1) := by decide +kernel
theorem d_L_take_4 : decode b_L_take 4 = .ok (.invokevirtual 15, 3) := by decide +kernel
theorem d_L_take_7 : decode b_L_take 7 = .ok (.i2l, 1) := by decide +kernel
theorem d_L_take_8 : decode b_L_take 8 = .ok (.lastore, 1) := by decide +kernel
theorem d_L_take_9 : decode b_L_take 9 = .ok (.goto 6, 3) := by decide +kernel
theorem d_L_take_12 : decode b_L_take 12 = .ok (.astore_n 3, 1) := by decide +kernel
theorem d_L_take_13 : decode b_L_take 13 = .ok (.iconst 1, 1) := by decide +kernel
theorem d_L_take_14 : decode b_L_take 14 = .ok (.ireturn, 1) := by decide +kernel
theorem d_L_take_15 : decode b_L_take 15 = .ok (.iconst 0, 1) := by decide +kernel
theorem d_L_take_16 : decode b_L_take 16 = .ok (.ireturn, 1) := by decide +kernel
theorem d_L_give_0 : decode b_L_give 0 = .ok (.aload_n 2, 1) := by decide +kernel
theorem d_L_give_1 : decode b_L_give 1 = .ok (.iconst 0, 1) := by decide +kernel
theorem d_L_give_2 : decode b_L_give 2 = .ok (.aload_n 0, 1) := by decide +kernel
theorem d_L_give_3 : decode b_L_give 3 = .ok (.iload_n 1, 1) := by decide +kernel
theorem d_L_give_4 : decode b_L_give 4 = .ok (.invokevirtual 18, 3) := by decide +kernel
theorem d_L_give_7 : decode b_L_give 7 = .ok (.i2l, 1) := by decide +kernel
theorem d_L_give_8 : decode b_L_give 8 = .ok (.lastore, 1) := by decide +kernel
theorem d_L_give_9 : decode b_L_give 9 = .ok (.goto 6, 3) := by decide +kernel
theorem d_L_give_12 : decode b_L_give 12 = .ok (.astore_n 3, 1) := by decide +kernel
theorem d_L_give_13 : decode b_L_give 13 = .ok (.iconst 1, 1) := by decide +kernel
theorem d_L_give_14 : decode b_L_give 14 = .ok (.ireturn, 1) := by decide +kernel
theorem d_L_give_15 : decode b_L_give 15 = .ok (.iconst 0, 1) := by decide +kernel
theorem d_L_give_16 : decode b_L_give 16 = .ok (.ireturn, 1) := by decide +kernel
theorem d_L_mark_0 : decode b_L_mark 0 = .ok (.aload_n 2, 1) := by decide +kernel
theorem d_L_mark_1 : decode b_L_mark 1 = .ok (.iconst 0, 1) := by decide +kernel
theorem d_L_mark_2 : decode b_L_mark 2 = .ok (.aload_n 0, 1) := by decide +kernel
theorem d_L_mark_3 : decode b_L_mark 3 = .ok (.iload_n 1, 1) := by decide +kernel
theorem d_L_mark_4 : decode b_L_mark 4 = .ok (.invokevirtual 23, 3) := by decide +kernel
theorem d_L_mark_7 : decode b_L_mark 7 = .ok (.ifCond .eq 7, 3) := by decide +kernel
theorem d_L_mark_10 : decode b_L_mark 10 = .ok (.lconst 1, 1) := by decide +kernel
theorem d_L_mark_11 : decode b_L_mark 11 = .ok (.goto 4, 3) := by decide +kernel
theorem d_L_mark_14 : decode b_L_mark 14 = .ok (.lconst 0, 1) := by decide +kernel
theorem d_L_mark_15 : decode b_L_mark 15 = .ok (.lastore, 1) := by decide +kernel
theorem d_L_mark_16 : decode b_L_mark 16 = .ok (.goto 9, 3) := by decide +kernel
theorem d_L_mark_19 : decode b_L_mark 19 = .ok (.astore_n 3, 1) := by decide +kernel
theorem d_L_mark_20 : decode b_L_mark 20 = .ok (.iconst 1, 1) := by decide +kernel
theorem d_L_mark_21 : decode b_L_mark 21 = .ok (.ireturn, 1) := by decide +kernel
theorem d_L_mark_22 : decode b_L_mark 22 = .ok (.astore_n 3, 1) := by decide +kernel
theorem d_L_mark_23 : decode b_L_mark 23 = .ok (.iconst 2, 1) := by decide +kernel
theorem d_L_mark_24 : decode b_L_mark 24 = .ok (.ireturn, 1) := by decide +kernel
theorem d_L_mark_25 : decode b_L_mark 25 = .ok (.iconst 0, 1) := by decide +kernel
theorem d_L_mark_26 : decode b_L_mark 26 = .ok (.ireturn, 1) := by decide +kernel
theorem d_L_unmark_0 : decode b_L_unmark 0 = .ok (.aload_n 1, 1) := by decide +kernel
theorem d_L_unmark_1 : decode b_L_unmark 1 = .ok (.iconst 0, 1) := by decide +kernel
theorem d_L_unmark_2 : decode b_L_unmark 2 = .ok (.aload_n 0, 1) := by decide +kernel
theorem d_L_unmark_3 : decode b_L_unmark 3 = .ok (.invokevirtual 29, 3) := by decide +kernel
theorem d_L_unmark_6 : decode b_L_unmark 6 = .ok (.i2l, 1) := by decide +kernel
theorem d_L_unmark_7 : decode b_L_unmark 7 = .ok (.lastore, 1) := by decide +kernel
theorem d_L_unmark_8 : decode b_L_unmark 8 = .ok (.goto 6, 3) := by decide +kernel
theorem d_L_unmark_11 : decode b_L_unmark 11 = .ok (.astore_n 2, 1) := by decide +kernel
theorem d_L_unmark_12 : decode b_L_unmark 12 = .ok (.iconst 1, 1) := by decide +kernel
theorem d_L_unmark_13 : decode b_L_unmark 13 = .ok (.ireturn, 1) := by decide +kernel
theorem d_L_unmark_14 : decode b_L_unmark 14 = .ok (.iconst 0, 1) := by decide +kernel
theorem d_L_unmark_15 : decode b_L_unmark 15 = .ok (.ireturn, 1) := by decide +kernel
theorem d_L_begin_0 : decode b_L_begin 0 = .ok (.aload_n 0, 1) := by decide +kernel
theorem d_L_begin_1 : decode b_L_begin 1 = .ok (.invokevirtual 33, 3) := by decide +kernel
theorem d_L_begin_4 : decode b_L_begin 4 = .ok (.goto 6, 3) := by decide +kernel
theorem d_L_begin_7 : decode b_L_begin 7 = .ok (.astore_n 1, 1) := by decide +kernel
theorem d_L_begin_8 : decode b_L_begin 8 = .ok (.iconst 1, 1) := by decide +kernel
theorem d_L_begin_9 : decode b_L_begin 9 = .ok (.ireturn, 1) := by decide +kernel
theorem d_L_begin_10 : decode b_L_begin 10 = .ok (.iconst 0, 1) := by decide +kernel
theorem d_L_begin_11 : decode b_L_begin 11 = .ok (.ireturn, 1) := by decide +kernel
theorem d_L_sweep_0 : decode b_L_sweep 0 = .ok (.aload_n 2, 1) := by decide +kernel
theorem d_L_sweep_1 : decode b_L_sweep 1 = .ok (.iconst 0, 1) := by decide +kernel
theorem d_L_sweep_2 : decode b_L_sweep 2 = .ok (.aload_n 0, 1) := by decide +kernel
theorem d_L_sweep_3 : decode b_L_sweep 3 = .ok (.iload_n 1, 1) := by decide +kernel
theorem d_L_sweep_4 : decode b_L_sweep 4 = .ok (.invokevirtual 36, 3) := by decide +kernel
theorem d_L_sweep_7 : decode b_L_sweep 7 = .ok (.i2l, 1) := by decide +kernel
theorem d_L_sweep_8 : decode b_L_sweep 8 = .ok (.lastore, 1) := by decide +kernel
theorem d_L_sweep_9 : decode b_L_sweep 9 = .ok (.goto 6, 3) := by decide +kernel
theorem d_L_sweep_12 : decode b_L_sweep 12 = .ok (.astore_n 3, 1) := by decide +kernel
theorem d_L_sweep_13 : decode b_L_sweep 13 = .ok (.iconst 1, 1) := by decide +kernel
theorem d_L_sweep_14 : decode b_L_sweep 14 = .ok (.ireturn, 1) := by decide +kernel
theorem d_L_sweep_15 : decode b_L_sweep 15 = .ok (.iconst 0, 1) := by decide +kernel
theorem d_L_sweep_16 : decode b_L_sweep 16 = .ok (.ireturn, 1) := by decide +kernel
theorem d_L_count_0 : decode b_L_count 0 = .ok (.aload_n 2, 1) := by decide +kernel
theorem d_L_count_1 : decode b_L_count 1 = .ok (.iconst 0, 1) := by decide +kernel
theorem d_L_count_2 : decode b_L_count 2 = .ok (.aload_n 0, 1) := by decide +kernel
theorem d_L_count_3 : decode b_L_count 3 = .ok (.iload_n 1, 1) := by decide +kernel
theorem d_L_count_4 : decode b_L_count 4 = .ok (.invokevirtual 39, 3) := by decide +kernel
theorem d_L_count_7 : decode b_L_count 7 = .ok (.i2l, 1) := by decide +kernel
theorem d_L_count_8 : decode b_L_count 8 = .ok (.lastore, 1) := by decide +kernel
theorem d_L_count_9 : decode b_L_count 9 = .ok (.goto 6, 3) := by decide +kernel
theorem d_L_count_12 : decode b_L_count 12 = .ok (.astore_n 3, 1) := by decide +kernel
theorem d_L_count_13 : decode b_L_count 13 = .ok (.iconst 1, 1) := by decide +kernel
theorem d_L_count_14 : decode b_L_count 14 = .ok (.ireturn, 1) := by decide +kernel
theorem d_L_count_15 : decode b_L_count 15 = .ok (.iconst 0, 1) := by decide +kernel
theorem d_L_count_16 : decode b_L_count 16 = .ok (.ireturn, 1) := by decide +kernel
theorem d_L_law_0 : decode b_L_law 0 = .ok (.new 8, 3) := by decide +kernel
theorem d_L_law_3 : decode b_L_law 3 = .ok (.dup, 1) := by decide +kernel
theorem d_L_law_4 : decode b_L_law 4 = .ok (.invokespecial 42, 3) := by decide +kernel
theorem d_L_law_7 : decode b_L_law 7 = .ok (.astore_n 1, 1) := by decide +kernel
theorem d_L_law_8 : decode b_L_law 8 = .ok (.new 43, 3) := by decide +kernel
theorem d_L_law_11 : decode b_L_law 11 = .ok (.dup, 1) := by decide +kernel
theorem d_L_law_12 : decode b_L_law 12 = .ok (.invokespecial 45, 3) := by decide +kernel
theorem d_L_law_15 : decode b_L_law 15 = .ok (.astore_n 2, 1) := by decide +kernel
theorem d_L_law_16 : decode b_L_law 16 = .ok (.iconst 1, 1) := by decide +kernel
theorem d_L_law_17 : decode b_L_law 17 = .ok (.newarray .long, 2) := by decide +kernel
theorem d_L_law_19 : decode b_L_law 19 = .ok (.astore_n 3, 1) := by decide +kernel
theorem d_L_law_20 : decode b_L_law 20 = .ok (.iconst 0, 1) := by decide +kernel
theorem d_L_law_21 : decode b_L_law 21 = .ok (.istore 4, 2) := by decide +kernel
theorem d_L_law_23 : decode b_L_law 23 = .ok (.iload 4, 2) := by decide +kernel
theorem d_L_law_25 : decode b_L_law 25 = .ok (.aload_n 0, 1) := by decide +kernel
theorem d_L_law_26 : decode b_L_law 26 = .ok (.arraylength, 1) := by decide +kernel
theorem d_L_law_27 : decode b_L_law 27 = .ok (.iconst 2, 1) := by decide +kernel
theorem d_L_law_28 : decode b_L_law 28 = .ok (.isub, 1) := by decide +kernel
theorem d_L_law_29 : decode b_L_law 29 = .ok (.if_icmp .gt 564, 3) := by decide +kernel
theorem d_L_law_32 : decode b_L_law 32 = .ok (.aload_n 0, 1) := by decide +kernel
theorem d_L_law_33 : decode b_L_law 33 = .ok (.iload 4, 2) := by decide +kernel
theorem d_L_law_35 : decode b_L_law 35 = .ok (.iaload, 1) := by decide +kernel
theorem d_L_law_36 : decode b_L_law 36 = .ok (.bipush 15, 2) := by decide +kernel
theorem d_L_law_38 : decode b_L_law 38 = .ok (.iand, 1) := by decide +kernel
theorem d_L_law_39 : decode b_L_law 39 = .ok (.tableswitch 548 0 11 #[61, 117, 173, 229, 292, 336, 360, 416, 429, 454, 479, 535], 61) := by decide +kernel
