theorem qd_T_init_0 : decode qb_T_init 0 = .ok (.aload_n 0, 1) := by decide +kernel
theorem qd_T_init_1 : decode qb_T_init 1 = .ok (.invokespecial 5, 3) := by decide +kernel
theorem qd_T_init_4 : decode qb_T_init 4 = .ok (.aload_n 0, 1) := by decide +kernel
theorem qd_T_init_5 : decode qb_T_init 5 = .ok (.sipush 1024, 3) := by decide +kernel
theorem qd_T_init_8 : decode qb_T_init 8 = .ok (.newarray .int, 2) := by decide +kernel
theorem qd_T_init_10 : decode qb_T_init 10 = .ok (.putfield 13, 3) := by decide +kernel
theorem qd_T_init_13 : decode qb_T_init 13 = .ok (.aload_n 0, 1) := by decide +kernel
theorem qd_T_init_14 : decode qb_T_init 14 = .ok (.sipush 1024, 3) := by decide +kernel
theorem qd_T_init_17 : decode qb_T_init 17 = .ok (.newarray .int, 2) := by decide +kernel
theorem qd_T_init_19 : decode qb_T_init 19 = .ok (.putfield 17, 3) := by decide +kernel
theorem qd_T_init_22 : decode qb_T_init 22 = .ok (.aload_n 0, 1) := by decide +kernel
theorem qd_T_init_23 : decode qb_T_init 23 = .ok (.sipush 1024, 3) := by decide +kernel
theorem qd_T_init_26 : decode qb_T_init 26 = .ok (.newarray .int, 2) := by decide +kernel
theorem qd_T_init_28 : decode qb_T_init 28 = .ok (.putfield 20, 3) := by decide +kernel
theorem qd_T_init_31 : decode qb_T_init 31 = .ok (.aload_n 0, 1) := by decide +kernel
theorem qd_T_init_32 : decode qb_T_init 32 = .ok (.sipush 1024, 3) := by decide +kernel
theorem qd_T_init_35 : decode qb_T_init 35 = .ok (.newarray .int, 2) := by decide +kernel
theorem qd_T_init_37 : decode qb_T_init 37 = .ok (.putfield 23, 3) := by decide +kernel
theorem qd_T_init_40 : decode qb_T_init 40 = .ok (.aload_n 0, 1) := by decide +kernel
theorem qd_T_init_41 : decode qb_T_init 41 = .ok (.sipush 1024, 3) := by decide +kernel
theorem qd_T_init_44 : decode qb_T_init 44 = .ok (.newarray .int, 2) := by decide +kernel
theorem qd_T_init_46 : decode qb_T_init 46 = .ok (.putfield 26, 3) := by decide +kernel
theorem qd_T_init_49 : decode qb_T_init 49 = .ok (.aload_n 0, 1) := by decide +kernel
theorem qd_T_init_50 : decode qb_T_init 50 = .ok (.sipush 1024, 3) := by decide +kernel
theorem qd_T_init_53 : decode qb_T_init 53 = .ok (.newarray .int, 2) := by decide +kernel
theorem qd_T_init_55 : decode qb_T_init 55 = .ok (.putfield 29, 3) := by decide +kernel
theorem qd_T_init_58 : decode qb_T_init 58 = .ok (.aload_n 0, 1) := by decide +kernel
theorem qd_T_init_59 : decode qb_T_init 59 = .ok (.sipush 1024, 3) := by decide +kernel
theorem qd_T_init_62 : decode qb_T_init 62 = .ok (.newarray .int, 2) := by decide +kernel
theorem qd_T_init_64 : decode qb_T_init 64 = .ok (.putfield 32, 3) := by decide +kernel
theorem qd_T_init_67 : decode qb_T_init 67 = .ok (.aload_n 0, 1) := by decide +kernel
theorem qd_T_init_68 : decode qb_T_init 68 = .ok (.sipush 1024, 3) := by decide +kernel
theorem qd_T_init_71 : decode qb_T_init 71 = .ok (.newarray .int, 2) := by decide +kernel
theorem qd_T_init_73 : decode qb_T_init 73 = .ok (.putfield 35, 3) := by decide +kernel
theorem qd_T_init_76 : decode qb_T_init 76 = .ok (.aload_n 0, 1) := by decide +kernel
theorem qd_T_init_77 : decode qb_T_init 77 = .ok (.invokevirtual 38, 3) := by decide +kernel
theorem qd_T_init_80 : decode qb_T_init 80 = .ok (.return_, 1) := by decide +kernel
theorem qd_T_empty_0 : decode qb_T_empty 0 = .ok (.aload_n 0, 1) := by decide +kernel
theorem qd_T_empty_1 : decode qb_T_empty 1 = .ok (.iconst 0, 1) := by decide +kernel
theorem qd_T_empty_2 : decode qb_T_empty 2 = .ok (.putfield 41, 3) := by decide +kernel
theorem qd_T_empty_5 : decode qb_T_empty 5 = .ok (.aload_n 0, 1) := by decide +kernel
theorem qd_T_empty_6 : decode qb_T_empty 6 = .ok (.iconst 0, 1) := by decide +kernel
theorem qd_T_empty_7 : decode qb_T_empty 7 = .ok (.putfield 45, 3) := by decide +kernel
theorem qd_T_empty_10 : decode qb_T_empty 10 = .ok (.aload_n 0, 1) := by decide +kernel
theorem qd_T_empty_11 : decode qb_T_empty 11 = .ok (.iconst 0, 1) := by decide +kernel
theorem qd_T_empty_12 : decode qb_T_empty 12 = .ok (.iconst 0, 1) := by decide +kernel
theorem qd_T_empty_13 : decode qb_T_empty 13 = .ok (.iconst (-1), 1) := by decide +kernel
theorem qd_T_empty_14 : decode qb_T_empty 14 = .ok (.iconst (-1), 1) := by decide +kernel
theorem qd_T_empty_15 : decode qb_T_empty 15 = .ok (.invokevirtual 48, 3) := by decide +kernel
theorem qd_T_empty_18 : decode qb_T_empty 18 = .ok (.pop, 1) := by decide +kernel
theorem qd_T_empty_19 : decode qb_T_empty 19 = .ok (.aload_n 0, 1) := by decide +kernel
theorem qd_T_empty_20 : decode qb_T_empty 20 = .ok (.bipush 6, 2) := by decide +kernel
theorem qd_T_empty_22 : decode qb_T_empty 22 = .ok (.iconst (-1), 1) := by decide +kernel
theorem qd_T_empty_23 : decode qb_T_empty 23 = .ok (.iconst (-1), 1) := by decide +kernel
theorem qd_T_empty_24 : decode qb_T_empty 24 = .ok (.iconst (-1), 1) := by decide +kernel
theorem qd_T_empty_25 : decode qb_T_empty 25 = .ok (.invokevirtual 48, 3) := by decide +kernel
theorem qd_T_empty_28 : decode qb_T_empty 28 = .ok (.pop, 1) := by decide +kernel
theorem qd_T_empty_29 : decode qb_T_empty 29 = .ok (.aload_n 0, 1) := by decide +kernel
theorem qd_T_empty_30 : decode qb_T_empty 30 = .ok (.bipush 7, 2) := by decide +kernel
theorem qd_T_empty_32 : decode qb_T_empty 32 = .ok (.iconst (-1), 1) := by decide +kernel
theorem qd_T_empty_33 : decode qb_T_empty 33 = .ok (.iconst (-1), 1) := by decide +kernel
theorem qd_T_empty_34 : decode qb_T_empty 34 = .ok (.iconst (-1), 1) := by decide +kernel
theorem qd_T_empty_35 : decode qb_T_empty 35 = .ok (.invokevirtual 48, 3) := by decide +kernel
theorem qd_T_empty_38 : decode qb_T_empty 38 = .ok (.pop, 1) := by decide +kernel
theorem qd_T_empty_39 : decode qb_T_empty 39 = .ok (.return_, 1) := by decide +kernel
theorem qd_T_keep_0 : decode qb_T_keep 0 = .ok (.aload_n 0, 1) := by decide +kernel
theorem qd_T_keep_1 : decode qb_T_keep 1 = .ok (.iload_n 1, 1) := by decide +kernel
theorem qd_T_keep_2 : decode qb_T_keep 2 = .ok (.iload_n 2, 1) := by decide +kernel
theorem qd_T_keep_3 : decode qb_T_keep 3 = .ok (.iload_n 3, 1) := by decide +kernel
theorem qd_T_keep_4 : decode qb_T_keep 4 = .ok (.iload 4, 2) := by decide +kernel
theorem qd_T_keep_6 : decode qb_T_keep 6 = .ok (.sipush 150, 3) := by decide +kernel
theorem qd_T_keep_9 : decode qb_T_keep 9 = .ok (.invokevirtual 62, 3) := by decide +kernel
theorem qd_T_keep_12 : decode qb_T_keep 12 = .ok (.istore 5, 2) := by decide +kernel
theorem qd_T_keep_14 : decode qb_T_keep 14 = .ok (.iload 5, 2) := by decide +kernel
theorem qd_T_keep_16 : decode qb_T_keep 16 = .ok (.aload_n 0, 1) := by decide +kernel
theorem qd_T_keep_17 : decode qb_T_keep 17 = .ok (.getfield 41, 3) := by decide +kernel
theorem qd_T_keep_20 : decode qb_T_keep 20 = .ok (.if_icmp .lt 11, 3) := by decide +kernel
theorem qd_T_keep_23 : decode qb_T_keep 23 = .ok (.aload_n 0, 1) := by decide +kernel
theorem qd_T_keep_24 : decode qb_T_keep 24 = .ok (.iload 5, 2) := by decide +kernel
theorem qd_T_keep_26 : decode qb_T_keep 26 = .ok (.iconst 1, 1) := by decide +kernel
theorem qd_T_keep_27 : decode qb_T_keep 27 = .ok (.iadd, 1) := by decide +kernel
theorem qd_T_keep_28 : decode qb_T_keep 28 = .ok (.putfield 41, 3) := by decide +kernel
theorem qd_T_keep_31 : decode qb_T_keep 31 = .ok (.iload 5, 2) := by decide +kernel
theorem qd_T_keep_33 : decode qb_T_keep 33 = .ok (.ireturn, 1) := by decide +kernel
theorem qd_T_put_0 : decode qb_T_put 0 = .ok (.iload_n 1, 1) := by decide +kernel
theorem qd_T_put_1 : decode qb_T_put 1 = .ok (.bipush 8, 2) := by decide +kernel
theorem qd_T_put_3 : decode qb_T_put 3 = .ok (.if_icmp .ne 10, 3) := by decide +kernel
theorem qd_T_put_6 : decode qb_T_put 6 = .ok (.aload_n 0, 1) := by decide +kernel
theorem qd_T_put_7 : decode qb_T_put 7 = .ok (.getfield 45, 3) := by decide +kernel
theorem qd_T_put_10 : decode qb_T_put 10 = .ok (.goto 4, 3) := by decide +kernel
theorem qd_T_put_13 : decode qb_T_put 13 = .ok (.iconst 0, 1) := by decide +kernel
theorem qd_T_put_14 : decode qb_T_put 14 = .ok (.istore 6, 2) := by decide +kernel
theorem qd_T_put_16 : decode qb_T_put 16 = .ok (.iload 6, 2) := by decide +kernel
theorem qd_T_put_18 : decode qb_T_put 18 = .ok (.aload_n 0, 1) := by decide +kernel
theorem qd_T_put_19 : decode qb_T_put 19 = .ok (.getfield 45, 3) := by decide +kernel
theorem qd_T_put_22 : decode qb_T_put 22 = .ok (.if_icmp .ge 57, 3) := by decide +kernel
theorem qd_T_put_25 : decode qb_T_put 25 = .ok (.aload_n 0, 1) := by decide +kernel
theorem qd_T_put_26 : decode qb_T_put 26 = .ok (.getfield 13, 3) := by decide +kernel
theorem qd_T_put_29 : decode qb_T_put 29 = .ok (.iload 6, 2) := by decide +kernel
theorem qd_T_put_31 : decode qb_T_put 31 = .ok (.iaload, 1) := by decide +kernel
theorem qd_T_put_32 : decode qb_T_put 32 = .ok (.iload_n 1, 1) := by decide +kernel
theorem qd_T_put_33 : decode qb_T_put 33 = .ok (.if_icmp .ne 40, 3) := by decide +kernel
theorem qd_T_put_36 : decode qb_T_put 36 = .ok (.aload_n 0, 1) := by decide +kernel
theorem qd_T_put_37 : decode qb_T_put 37 = .ok (.getfield 17, 3) := by decide +kernel
theorem qd_T_put_40 : decode qb_T_put 40 = .ok (.iload 6, 2) := by decide +kernel
theorem qd_T_put_42 : decode qb_T_put 42 = .ok (.iaload, 1) := by decide +kernel
theorem qd_T_put_43 : decode qb_T_put 43 = .ok (.iload_n 2, 1) := by decide +kernel
theorem qd_T_put_44 : decode qb_T_put 44 = .ok (.if_icmp .ne 29, 3) := by decide +kernel
theorem qd_T_put_47 : decode qb_T_put 47 = .ok (.aload_n 0, 1) := by decide +kernel
theorem qd_T_put_48 : decode qb_T_put 48 = .ok (.getfield 20, 3) := by decide +kernel
theorem qd_T_put_51 : decode qb_T_put 51 = .ok (.iload 6, 2) := by decide +kernel
theorem qd_T_put_53 : decode qb_T_put 53 = .ok (.iaload, 1) := by decide +kernel
theorem qd_T_put_54 : decode qb_T_put 54 = .ok (.iload_n 3, 1) := by decide +kernel
theorem qd_T_put_55 : decode qb_T_put 55 = .ok (.if_icmp .ne 18, 3) := by decide +kernel
theorem qd_T_put_58 : decode qb_T_put 58 = .ok (.aload_n 0, 1) := by decide +kernel
theorem qd_T_put_59 : decode qb_T_put 59 = .ok (.getfield 23, 3) := by decide +kernel
theorem qd_T_put_62 : decode qb_T_put 62 = .ok (.iload 6, 2) := by decide +kernel
theorem qd_T_put_64 : decode qb_T_put 64 = .ok (.iaload, 1) := by decide +kernel
theorem qd_T_put_65 : decode qb_T_put 65 = .ok (.iload 4, 2) := by decide +kernel
theorem qd_T_put_67 : decode qb_T_put 67 = .ok (.if_icmp .ne 6, 3) := by decide +kernel
theorem qd_T_put_70 : decode qb_T_put 70 = .ok (.iload 6, 2) := by decide +kernel
theorem qd_T_put_72 : decode qb_T_put 72 = .ok (.ireturn, 1) := by decide +kernel
theorem qd_T_put_73 : decode qb_T_put 73 = .ok (.iinc 6 1, 3) := by decide +kernel
theorem qd_T_put_76 : decode qb_T_put 76 = .ok (.goto (-60), 3) := by decide +kernel
theorem qd_T_put_79 : decode qb_T_put 79 = .ok (.iload_n 1, 1) := by decide +kernel
theorem qd_T_put_80 : decode qb_T_put 80 = .ok (.iconst 2, 1) := by decide +kernel
theorem qd_T_put_81 : decode qb_T_put 81 = .ok (.if_icmp .eq 13, 3) := by decide +kernel
theorem qd_T_put_84 : decode qb_T_put 84 = .ok (.iload_n 1, 1) := by decide +kernel
theorem qd_T_put_85 : decode qb_T_put 85 = .ok (.iconst 4, 1) := by decide +kernel
theorem qd_T_put_86 : decode qb_T_put 86 = .ok (.if_icmp .eq 8, 3) := by decide +kernel
theorem qd_T_put_89 : decode qb_T_put 89 = .ok (.iload_n 1, 1) := by decide +kernel
theorem qd_T_put_90 : decode qb_T_put 90 = .ok (.iconst 5, 1) := by decide +kernel
theorem qd_T_put_91 : decode qb_T_put 91 = .ok (.if_icmp .ne 7, 3) := by decide +kernel
theorem qd_T_put_94 : decode qb_T_put 94 = .ok (.iconst 1, 1) := by decide +kernel
theorem qd_T_put_95 : decode qb_T_put 95 = .ok (.goto 4, 3) := by decide +kernel
theorem qd_T_put_98 : decode qb_T_put 98 = .ok (.iconst 0, 1) := by decide +kernel
theorem qd_T_put_99 : decode qb_T_put 99 = .ok (.istore 6, 2) := by decide +kernel
theorem qd_T_put_101 : decode qb_T_put 101 = .ok (.iconst 1, 1) := by decide +kernel
theorem qd_T_put_102 : decode qb_T_put 102 = .ok (.istore 7, 2) := by decide +kernel
theorem qd_T_put_104 : decode qb_T_put 104 = .ok (.iload_n 1, 1) := by decide +kernel
theorem qd_T_put_105 : decode qb_T_put 105 = .ok (.iconst 3, 1) := by decide +kernel
theorem qd_T_put_106 : decode qb_T_put 106 = .ok (.if_icmp .ne 9, 3) := by decide +kernel
theorem qd_T_put_109 : decode qb_T_put 109 = .ok (.iconst 1, 1) := by decide +kernel
theorem qd_T_put_110 : decode qb_T_put 110 = .ok (.iload_n 2, 1) := by decide +kernel
theorem qd_T_put_111 : decode qb_T_put 111 = .ok (.ishl, 1) := by decide +kernel
theorem qd_T_put_112 : decode qb_T_put 112 = .ok (.goto 15, 3) := by decide +kernel
theorem qd_T_put_115 : decode qb_T_put 115 = .ok (.iload_n 1, 1) := by decide +kernel
theorem qd_T_put_116 : decode qb_T_put 116 = .ok (.iconst 5, 1) := by decide +kernel
theorem qd_T_put_117 : decode qb_T_put 117 = .ok (.if_icmp .ne 9, 3) := by decide +kernel
theorem qd_T_put_120 : decode qb_T_put 120 = .ok (.sipush 4096, 3) := by decide +kernel
theorem qd_T_put_123 : decode qb_T_put 123 = .ok (.goto 4, 3) := by decide +kernel
theorem qd_T_put_126 : decode qb_T_put 126 = .ok (.iconst 0, 1) := by decide +kernel
theorem qd_T_put_127 : decode qb_T_put 127 = .ok (.istore 8, 2) := by decide +kernel
theorem qd_T_put_129 : decode qb_T_put 129 = .ok (.iload 6, 2) := by decide +kernel
theorem qd_T_put_131 : decode qb_T_put 131 = .ok (.ifCond .eq 36, 3) := by decide +kernel
theorem qd_T_put_134 : decode qb_T_put 134 = .ok (.iload_n 3, 1) := by decide +kernel
theorem qd_T_put_135 : decode qb_T_put 135 = .ok (.ifCond .lt 32, 3) := by decide +kernel
theorem qd_T_put_138 : decode qb_T_put 138 = .ok (.iload_n 3, 1) := by decide +kernel
theorem qd_T_put_139 : decode qb_T_put 139 = .ok (.aload_n 0, 1) := by decide +kernel
theorem qd_T_put_140 : decode qb_T_put 140 = .ok (.getfield 45, 3) := by decide +kernel
theorem qd_T_put_143 : decode qb_T_put 143 = .ok (.if_icmp .ge 24, 3) := by decide +kernel
theorem qd_T_put_146 : decode qb_T_put 146 = .ok (.iconst 1, 1) := by decide +kernel
theorem qd_T_put_147 : decode qb_T_put 147 = .ok (.aload_n 0, 1) := by decide +kernel
theorem qd_T_put_148 : decode qb_T_put 148 = .ok (.getfield 26, 3) := by decide +kernel
theorem qd_T_put_151 : decode qb_T_put 151 = .ok (.iload_n 3, 1) := by decide +kernel
theorem qd_T_put_152 : decode qb_T_put 152 = .ok (.iaload, 1) := by decide +kernel
theorem qd_T_put_153 : decode qb_T_put 153 = .ok (.iadd, 1) := by decide +kernel
theorem qd_T_put_154 : decode qb_T_put 154 = .ok (.istore 7, 2) := by decide +kernel
theorem qd_T_put_156 : decode qb_T_put 156 = .ok (.iload 8, 2) := by decide +kernel
theorem qd_T_put_158 : decode qb_T_put 158 = .ok (.aload_n 0, 1) := by decide +kernel
theorem qd_T_put_159 : decode qb_T_put 159 = .ok (.getfield 29, 3) := by decide +kernel
theorem qd_T_put_162 : decode qb_T_put 162 = .ok (.iload_n 3, 1) := by decide +kernel
theorem qd_T_put_163 : decode qb_T_put 163 = .ok (.iaload, 1) := by decide +kernel
theorem qd_T_put_164 : decode qb_T_put 164 = .ok (.ior, 1) := by decide +kernel
theorem qd_T_put_165 : decode qb_T_put 165 = .ok (.istore 8, 2) := by decide +kernel
theorem qd_T_put_167 : decode qb_T_put 167 = .ok (.iload 6, 2) := by decide +kernel
theorem qd_T_put_169 : decode qb_T_put 169 = .ok (.ifCond .eq 45, 3) := by decide +kernel
theorem qd_T_put_172 : decode qb_T_put 172 = .ok (.iload 4, 2) := by decide +kernel
theorem qd_T_put_174 : decode qb_T_put 174 = .ok (.ifCond .lt 40, 3) := by decide +kernel
theorem qd_T_put_177 : decode qb_T_put 177 = .ok (.iload 4, 2) := by decide +kernel
theorem qd_T_put_179 : decode qb_T_put 179 = .ok (.aload_n 0, 1) := by decide +kernel
theorem qd_T_put_180 : decode qb_T_put 180 = .ok (.getfield 45, 3) := by decide +kernel
theorem qd_T_put_183 : decode qb_T_put 183 = .ok (.if_icmp .ge 31, 3) := by decide +kernel
theorem qd_T_put_186 : decode qb_T_put 186 = .ok (.iload 7, 2) := by decide +kernel
theorem qd_T_put_188 : decode qb_T_put 188 = .ok (.iconst 1, 1) := by decide +kernel
theorem qd_T_put_189 : decode qb_T_put 189 = .ok (.aload_n 0, 1) := by decide +kernel
theorem qd_T_put_190 : decode qb_T_put 190 = .ok (.getfield 26, 3) := by decide +kernel
theorem qd_T_put_193 : decode qb_T_put 193 = .ok (.iload 4, 2) := by decide +kernel
theorem qd_T_put_195 : decode qb_T_put 195 = .ok (.iaload, 1) := by decide +kernel
theorem qd_T_put_196 : decode qb_T_put 196 = .ok (.iadd, 1) := by decide +kernel
theorem qd_T_put_197 : decode qb_T_put 197 = .ok (.invokestatic 69, 3) := by decide +kernel
theorem qd_T_put_200 : decode qb_T_put 200 = .ok (.istore 7, 2) := by decide +kernel
theorem qd_T_put_202 : decode qb_T_put 202 = .ok (.iload 8, 2) := by decide +kernel
theorem qd_T_put_204 : decode qb_T_put 204 = .ok (.aload_n 0, 1) := by decide +kernel
theorem qd_T_put_205 : decode qb_T_put 205 = .ok (.getfield 29, 3) := by decide +kernel
theorem qd_T_put_208 : decode qb_T_put 208 = .ok (.iload 4, 2) := by decide +kernel
theorem qd_T_put_210 : decode qb_T_put 210 = .ok (.iaload, 1) := by decide +kernel
theorem qd_T_put_211 : decode qb_T_put 211 = .ok (.ior, 1) := by decide +kernel
theorem qd_T_put_212 : decode qb_T_put 212 = .ok (.istore 8, 2) := by decide +kernel
theorem qd_T_put_214 : decode qb_T_put 214 = .ok (.aload_n 0, 1) := by decide +kernel
theorem qd_T_put_215 : decode qb_T_put 215 = .ok (.getfield 45, 3) := by decide +kernel
theorem qd_T_put_218 : decode qb_T_put 218 = .ok (.ifCond .lt 22, 3) := by decide +kernel
theorem qd_T_put_221 : decode qb_T_put 221 = .ok (.aload_n 0, 1) := by decide +kernel
theorem qd_T_put_222 : decode qb_T_put 222 = .ok (.getfield 45, 3) := by decide +kernel
theorem qd_T_put_225 : decode qb_T_put 225 = .ok (.sipush 1024, 3) := by decide +kernel
theorem qd_T_put_228 : decode qb_T_put 228 = .ok (.if_icmp .ge 12, 3) := by decide +kernel
theorem qd_T_put_231 : decode qb_T_put 231 = .ok (.aload_n 0, 1) := by decide +kernel
theorem qd_T_put_232 : decode qb_T_put 232 = .ok (.getfield 45, 3) := by decide +kernel
theorem qd_T_put_235 : decode qb_T_put 235 = .ok (.iload 5, 2) := by decide +kernel
theorem qd_T_put_237 : decode qb_T_put 237 = .ok (.if_icmp .lt 6, 3) := by decide +kernel
theorem qd_T_put_240 : decode qb_T_put 240 = .ok (.bipush (-3), 2) := by decide +kernel
theorem qd_T_put_242 : decode qb_T_put 242 = .ok (.ireturn, 1) := by decide +kernel
theorem qd_T_put_243 : decode qb_T_put 243 = .ok (.iload 5, 2) := by decide +kernel
theorem qd_T_put_245 : decode qb_T_put 245 = .ok (.sipush 150, 3) := by decide +kernel
theorem qd_T_put_248 : decode qb_T_put 248 = .ok (.if_icmp .ne 13, 3) := by decide +kernel
theorem qd_T_put_251 : decode qb_T_put 251 = .ok (.iload 7, 2) := by decide +kernel
theorem qd_T_put_253 : decode qb_T_put 253 = .ok (.bipush 6, 2) := by decide +kernel
theorem qd_T_put_255 : decode qb_T_put 255 = .ok (.if_icmp .le 6, 3) := by decide +kernel
theorem qd_T_put_258 : decode qb_T_put 258 = .ok (.bipush (-4), 2) := by decide +kernel
theorem qd_T_put_260 : decode qb_T_put 260 = .ok (.ireturn, 1) := by decide +kernel
theorem qd_T_put_261 : decode qb_T_put 261 = .ok (.aload_n 0, 1) := by decide +kernel
theorem qd_T_put_262 : decode qb_T_put 262 = .ok (.getfield 45, 3) := by decide +kernel
theorem qd_T_put_265 : decode qb_T_put 265 = .ok (.istore 9, 2) := by decide +kernel
theorem qd_T_put_267 : decode qb_T_put 267 = .ok (.aload_n 0, 1) := by decide +kernel
theorem qd_T_put_268 : decode qb_T_put 268 = .ok (.iload 9, 2) := by decide +kernel
theorem qd_T_put_270 : decode qb_T_put 270 = .ok (.iconst 1, 1) := by decide +kernel
theorem qd_T_put_271 : decode qb_T_put 271 = .ok (.iadd, 1) := by decide +kernel
theorem qd_T_put_272 : decode qb_T_put 272 = .ok (.putfield 45, 3) := by decide +kernel
theorem qd_T_put_275 : decode qb_T_put 275 = .ok (.aload_n 0, 1) := by decide +kernel
theorem qd_T_put_276 : decode qb_T_put 276 = .ok (.getfield 13, 3) := by decide +kernel
theorem qd_T_put_279 : decode qb_T_put 279 = .ok (.iload 9, 2) := by decide +kernel
theorem qd_T_put_281 : decode qb_T_put 281 = .ok (.iload_n 1, 1) := by decide +kernel
theorem qd_T_put_282 : decode qb_T_put 282 = .ok (.iastore, 1) := by decide +kernel
theorem qd_T_put_283 : decode qb_T_put 283 = .ok (.aload_n 0, 1) := by decide +kernel
theorem qd_T_put_284 : decode qb_T_put 284 = .ok (.getfield 17, 3) := by decide +kernel
theorem qd_T_put_287 : decode qb_T_put 287 = .ok (.iload 9, 2) := by decide +kernel
theorem qd_T_put_289 : decode qb_T_put 289 = .ok (.iload_n 2, 1) := by decide +kernel
theorem qd_T_put_290 : decode qb_T_put 290 = .ok (.iastore, 1) := by decide +kernel
theorem qd_T_put_291 : decode qb_T_put 291 = .ok (.aload_n 0, 1) := by decide +kernel
theorem qd_T_put_292 : decode qb_T_put 292 = .ok (.getfield 20, 3) := by decide +kernel
theorem qd_T_put_295 : decode qb_T_put 295 = .ok (.iload 9, 2) := by decide +kernel
theorem qd_T_put_297 : decode qb_T_put 297 = .ok (.iload_n 3, 1) := by decide +kernel
theorem qd_T_put_298 : decode qb_T_put 298 = .ok (.iastore, 1) := by decide +kernel
theorem qd_T_put_299 : decode qb_T_put 299 = .ok (.aload_n 0, 1) := by decide +kernel
theorem qd_T_put_300 : decode qb_T_put 300 = .ok (.getfield 23, 3) := by decide +kernel
theorem qd_T_put_303 : decode qb_T_put 303 = .ok (.iload 9, 2) := by decide +kernel
theorem qd_T_put_305 : decode qb_T_put 305 = .ok (.iload 4, 2) := by decide +kernel
theorem qd_T_put_307 : decode qb_T_put 307 = .ok (.iastore, 1) := by decide +kernel
theorem qd_T_put_308 : decode qb_T_put 308 = .ok (.aload_n 0, 1) := by decide +kernel
theorem qd_T_put_309 : decode qb_T_put 309 = .ok (.getfield 26, 3) := by decide +kernel
theorem qd_T_put_312 : decode qb_T_put 312 = .ok (.iload 9, 2) := by decide +kernel
theorem qd_T_put_314 : decode qb_T_put 314 = .ok (.iload 7, 2) := by decide +kernel
theorem qd_T_put_316 : decode qb_T_put 316 = .ok (.iastore, 1) := by decide +kernel
theorem qd_T_put_317 : decode qb_T_put 317 = .ok (.aload_n 0, 1) := by decide +kernel
theorem qd_T_put_318 : decode qb_T_put 318 = .ok (.getfield 29, 3) := by decide +kernel
theorem qd_T_put_321 : decode qb_T_put 321 = .ok (.iload 9, 2) := by decide +kernel
theorem qd_T_put_323 : decode qb_T_put 323 = .ok (.iload 8, 2) := by decide +kernel
theorem qd_T_put_325 : decode qb_T_put 325 = .ok (.iastore, 1) := by decide +kernel
theorem qd_T_put_326 : decode qb_T_put 326 = .ok (.aload_n 0, 1) := by decide +kernel
theorem qd_T_put_327 : decode qb_T_put 327 = .ok (.getfield 32, 3) := by decide +kernel
theorem qd_T_put_330 : decode qb_T_put 330 = .ok (.iload 9, 2) := by decide +kernel
theorem qd_T_put_332 : decode qb_T_put 332 = .ok (.iconst (-1), 1) := by decide +kernel
theorem qd_T_put_333 : decode qb_T_put 333 = .ok (.iastore, 1) := by decide +kernel
theorem qd_T_put_334 : decode qb_T_put 334 = .ok (.aload_n 0, 1) := by decide +kernel
theorem qd_T_put_335 : decode qb_T_put 335 = .ok (.getfield 35, 3) := by decide +kernel
theorem qd_T_put_338 : decode qb_T_put 338 = .ok (.iload 9, 2) := by decide +kernel
theorem qd_T_put_340 : decode qb_T_put 340 = .ok (.iconst (-1), 1) := by decide +kernel
theorem qd_T_put_341 : decode qb_T_put 341 = .ok (.iastore, 1) := by decide +kernel
theorem qd_T_put_342 : decode qb_T_put 342 = .ok (.iload 9, 2) := by decide +kernel
theorem qd_T_put_344 : decode qb_T_put 344 = .ok (.ireturn, 1) := by decide +kernel
theorem qd_T_has_0 : decode qb_T_has 0 = .ok (.iload_n 1, 1) := by decide +kernel
theorem qd_T_has_1 : decode qb_T_has 1 = .ok (.ifCond .lt 15, 3) := by decide +kernel
theorem qd_T_has_4 : decode qb_T_has 4 = .ok (.iload_n 1, 1) := by decide +kernel
theorem qd_T_has_5 : decode qb_T_has 5 = .ok (.aload_n 0, 1) := by decide +kernel
theorem qd_T_has_6 : decode qb_T_has 6 = .ok (.getfield 41, 3) := by decide +kernel
theorem qd_T_has_9 : decode qb_T_has 9 = .ok (.if_icmp .ge 7, 3) := by decide +kernel
theorem qd_T_has_12 : decode qb_T_has 12 = .ok (.iconst 1, 1) := by decide +kernel
theorem qd_T_has_13 : decode qb_T_has 13 = .ok (.goto 4, 3) := by decide +kernel
theorem qd_T_has_16 : decode qb_T_has 16 = .ok (.iconst 0, 1) := by decide +kernel
theorem qd_T_has_17 : decode qb_T_has 17 = .ok (.ireturn, 1) := by decide +kernel
theorem qd_T_isOfClass_0 : decode qb_T_isOfClass 0 = .ok (.aload_n 0, 1) := by decide +kernel
theorem qd_T_isOfClass_1 : decode qb_T_isOfClass 1 = .ok (.iload_n 1, 1) := by decide +kernel
theorem qd_T_isOfClass_2 : decode qb_T_isOfClass 2 = .ok (.invokevirtual 52, 3) := by decide +kernel
theorem qd_T_isOfClass_5 : decode qb_T_isOfClass 5 = .ok (.istore_n 2, 1) := by decide +kernel
theorem qd_T_isOfClass_6 : decode qb_T_isOfClass 6 = .ok (.iload_n 2, 1) := by decide +kernel
theorem qd_T_isOfClass_7 : decode qb_T_isOfClass 7 = .ok (.ifCond .eq 13, 3) := by decide +kernel
theorem qd_T_isOfClass_10 : decode qb_T_isOfClass 10 = .ok (.iload_n 2, 1) := by decide +kernel
theorem qd_T_isOfClass_11 : decode qb_T_isOfClass 11 = .ok (.iconst 1, 1) := by decide +kernel
theorem qd_T_isOfClass_12 : decode qb_T_isOfClass 12 = .ok (.if_icmp .eq 8, 3) := by decide +kernel
theorem qd_T_isOfClass_15 : decode qb_T_isOfClass 15 = .ok (.iload_n 2, 1) := by decide +kernel
theorem qd_T_isOfClass_16 : decode qb_T_isOfClass 16 = .ok (.iconst 2, 1) := by decide +kernel
theorem qd_T_isOfClass_17 : decode qb_T_isOfClass 17 = .ok (.if_icmp .ne 7, 3) := by decide +kernel
theorem qd_T_isOfClass_20 : decode qb_T_isOfClass 20 = .ok (.iconst 1, 1) := by decide +kernel
theorem qd_T_isOfClass_21 : decode qb_T_isOfClass 21 = .ok (.goto 4, 3) := by decide +kernel
theorem qd_T_isOfClass_24 : decode qb_T_isOfClass 24 = .ok (.iconst 0, 1) := by decide +kernel
theorem qd_T_isOfClass_25 : decode qb_T_isOfClass 25 = .ok (.ireturn, 1) := by decide +kernel
theorem qd_T_sortOf_0 : decode qb_T_sortOf 0 = .ok (.iload_n 1, 1) := by decide +kernel
theorem qd_T_sortOf_1 : decode qb_T_sortOf 1 = .ok (.ifCond .lt 20, 3) := by decide +kernel
theorem qd_T_sortOf_4 : decode qb_T_sortOf 4 = .ok (.iload_n 1, 1) := by decide +kernel
theorem qd_T_sortOf_5 : decode qb_T_sortOf 5 = .ok (.aload_n 0, 1) := by decide +kernel
theorem qd_T_sortOf_6 : decode qb_T_sortOf 6 = .ok (.getfield 45, 3) := by decide +kernel
theorem qd_T_sortOf_9 : decode qb_T_sortOf 9 = .ok (.if_icmp .ge 12, 3) := by decide +kernel
theorem qd_T_sortOf_12 : decode qb_T_sortOf 12 = .ok (.aload_n 0, 1) := by decide +kernel
theorem qd_T_sortOf_13 : decode qb_T_sortOf 13 = .ok (.getfield 13, 3) := by decide +kernel
theorem qd_T_sortOf_16 : decode qb_T_sortOf 16 = .ok (.iload_n 1, 1) := by decide +kernel
theorem qd_T_sortOf_17 : decode qb_T_sortOf 17 = .ok (.iaload, 1) := by decide +kernel
theorem qd_T_sortOf_18 : decode qb_T_sortOf 18 = .ok (.goto 4, 3) := by decide +kernel
theorem qd_T_sortOf_21 : decode qb_T_sortOf 21 = .ok (.iconst (-1), 1) := by decide +kernel
theorem qd_T_sortOf_22 : decode qb_T_sortOf 22 = .ok (.ireturn, 1) := by decide +kernel
theorem qd_T_ownerOf_0 : decode qb_T_ownerOf 0 = .ok (.iload_n 1, 1) := by decide +kernel
theorem qd_T_ownerOf_1 : decode qb_T_ownerOf 1 = .ok (.ifCond .lt 20, 3) := by decide +kernel
theorem qd_T_ownerOf_4 : decode qb_T_ownerOf 4 = .ok (.iload_n 1, 1) := by decide +kernel
theorem qd_T_ownerOf_5 : decode qb_T_ownerOf 5 = .ok (.aload_n 0, 1) := by decide +kernel
theorem qd_T_ownerOf_6 : decode qb_T_ownerOf 6 = .ok (.getfield 45, 3) := by decide +kernel
theorem qd_T_ownerOf_9 : decode qb_T_ownerOf 9 = .ok (.if_icmp .ge 12, 3) := by decide +kernel
theorem qd_T_ownerOf_12 : decode qb_T_ownerOf 12 = .ok (.aload_n 0, 1) := by decide +kernel
theorem qd_T_ownerOf_13 : decode qb_T_ownerOf 13 = .ok (.getfield 17, 3) := by decide +kernel
theorem qd_T_ownerOf_16 : decode qb_T_ownerOf 16 = .ok (.iload_n 1, 1) := by decide +kernel
theorem qd_T_ownerOf_17 : decode qb_T_ownerOf 17 = .ok (.iaload, 1) := by decide +kernel
theorem qd_T_ownerOf_18 : decode qb_T_ownerOf 18 = .ok (.goto 4, 3) := by decide +kernel
theorem qd_T_ownerOf_21 : decode qb_T_ownerOf 21 = .ok (.iconst (-1), 1) := by decide +kernel
theorem qd_T_ownerOf_22 : decode qb_T_ownerOf 22 = .ok (.ireturn, 1) := by decide +kernel
theorem qd_T_isInWordsOf_0 : decode qb_T_isInWordsOf 0 = .ok (.iload_n 1, 1) := by decide +kernel
theorem qd_T_isInWordsOf_1 : decode qb_T_isInWordsOf 1 = .ok (.ifCond .lt 40, 3) := by decide +kernel
theorem qd_T_isInWordsOf_4 : decode qb_T_isInWordsOf 4 = .ok (.iload_n 1, 1) := by decide +kernel
theorem qd_T_isInWordsOf_5 : decode qb_T_isInWordsOf 5 = .ok (.aload_n 0, 1) := by decide +kernel
theorem qd_T_isInWordsOf_6 : decode qb_T_isInWordsOf 6 = .ok (.getfield 45, 3) := by decide +kernel
theorem qd_T_isInWordsOf_9 : decode qb_T_isInWordsOf 9 = .ok (.if_icmp .ge 32, 3) := by decide +kernel
theorem qd_T_isInWordsOf_12 : decode qb_T_isInWordsOf 12 = .ok (.iload_n 2, 1) := by decide +kernel
theorem qd_T_isInWordsOf_13 : decode qb_T_isInWordsOf 13 = .ok (.ifCond .lt 28, 3) := by decide +kernel
theorem qd_T_isInWordsOf_16 : decode qb_T_isInWordsOf 16 = .ok (.iload_n 2, 1) := by decide +kernel
theorem qd_T_isInWordsOf_17 : decode qb_T_isInWordsOf 17 = .ok (.bipush 12, 2) := by decide +kernel
theorem qd_T_isInWordsOf_19 : decode qb_T_isInWordsOf 19 = .ok (.if_icmp .ge 22, 3) := by decide +kernel
theorem qd_T_isInWordsOf_22 : decode qb_T_isInWordsOf 22 = .ok (.aload_n 0, 1) := by decide +kernel
theorem qd_T_isInWordsOf_23 : decode qb_T_isInWordsOf 23 = .ok (.getfield 29, 3) := by decide +kernel
theorem qd_T_isInWordsOf_26 : decode qb_T_isInWordsOf 26 = .ok (.iload_n 1, 1) := by decide +kernel
theorem qd_T_isInWordsOf_27 : decode qb_T_isInWordsOf 27 = .ok (.iaload, 1) := by decide +kernel
theorem qd_T_isInWordsOf_28 : decode qb_T_isInWordsOf 28 = .ok (.iconst 1, 1) := by decide +kernel
theorem qd_T_isInWordsOf_29 : decode qb_T_isInWordsOf 29 = .ok (.iload_n 2, 1) := by decide +kernel
theorem qd_T_isInWordsOf_30 : decode qb_T_isInWordsOf 30 = .ok (.ishl, 1) := by decide +kernel
theorem qd_T_isInWordsOf_31 : decode qb_T_isInWordsOf 31 = .ok (.iconst (-1), 1) := by decide +kernel
theorem qd_T_isInWordsOf_32 : decode qb_T_isInWordsOf 32 = .ok (.ixor, 1) := by decide +kernel
theorem qd_T_isInWordsOf_33 : decode qb_T_isInWordsOf 33 = .ok (.iand, 1) := by decide +kernel
theorem qd_T_isInWordsOf_34 : decode qb_T_isInWordsOf 34 = .ok (.ifCond .ne 7, 3) := by decide +kernel
theorem qd_T_isInWordsOf_37 : decode qb_T_isInWordsOf 37 = .ok (.iconst 1, 1) := by decide +kernel
theorem qd_T_isInWordsOf_38 : decode qb_T_isInWordsOf 38 = .ok (.goto 4, 3) := by decide +kernel
theorem qd_T_isInWordsOf_41 : decode qb_T_isInWordsOf 41 = .ok (.iconst 0, 1) := by decide +kernel
theorem qd_T_isInWordsOf_42 : decode qb_T_isInWordsOf 42 = .ok (.ireturn, 1) := by decide +kernel
theorem qd_T_mark_0 : decode qb_T_mark 0 = .ok (.aload_n 0, 1) := by decide +kernel
theorem qd_T_mark_1 : decode qb_T_mark 1 = .ok (.getfield 45, 3) := by decide +kernel
theorem qd_T_mark_4 : decode qb_T_mark 4 = .ok (.ireturn, 1) := by decide +kernel
theorem qd_T_mentions_0 : decode qb_T_mentions 0 = .ok (.iload_n 1, 1) := by decide +kernel
theorem qd_T_mentions_1 : decode qb_T_mentions 1 = .ok (.ifCond .lt 39, 3) := by decide +kernel
theorem qd_T_mentions_4 : decode qb_T_mentions 4 = .ok (.iload_n 1, 1) := by decide +kernel
theorem qd_T_mentions_5 : decode qb_T_mentions 5 = .ok (.aload_n 0, 1) := by decide +kernel
theorem qd_T_mentions_6 : decode qb_T_mentions 6 = .ok (.getfield 45, 3) := by decide +kernel
theorem qd_T_mentions_9 : decode qb_T_mentions 9 = .ok (.if_icmp .ge 31, 3) := by decide +kernel
theorem qd_T_mentions_12 : decode qb_T_mentions 12 = .ok (.iload_n 2, 1) := by decide +kernel
theorem qd_T_mentions_13 : decode qb_T_mentions 13 = .ok (.ifCond .lt 27, 3) := by decide +kernel
theorem qd_T_mentions_16 : decode qb_T_mentions 16 = .ok (.iload_n 2, 1) := by decide +kernel
theorem qd_T_mentions_17 : decode qb_T_mentions 17 = .ok (.bipush 12, 2) := by decide +kernel
theorem qd_T_mentions_19 : decode qb_T_mentions 19 = .ok (.if_icmp .ge 21, 3) := by decide +kernel
theorem qd_T_mentions_22 : decode qb_T_mentions 22 = .ok (.aload_n 0, 1) := by decide +kernel
theorem qd_T_mentions_23 : decode qb_T_mentions 23 = .ok (.getfield 29, 3) := by decide +kernel
theorem qd_T_mentions_26 : decode qb_T_mentions 26 = .ok (.iload_n 1, 1) := by decide +kernel
theorem qd_T_mentions_27 : decode qb_T_mentions 27 = .ok (.iaload, 1) := by decide +kernel
theorem qd_T_mentions_28 : decode qb_T_mentions 28 = .ok (.iload_n 2, 1) := by decide +kernel
theorem qd_T_mentions_29 : decode qb_T_mentions 29 = .ok (.ishr, 1) := by decide +kernel
theorem qd_T_mentions_30 : decode qb_T_mentions 30 = .ok (.iconst 1, 1) := by decide +kernel
theorem qd_T_mentions_31 : decode qb_T_mentions 31 = .ok (.iand, 1) := by decide +kernel
theorem qd_T_mentions_32 : decode qb_T_mentions 32 = .ok (.iconst 1, 1) := by decide +kernel
theorem qd_T_mentions_33 : decode qb_T_mentions 33 = .ok (.if_icmp .ne 7, 3) := by decide +kernel
theorem qd_T_mentions_36 : decode qb_T_mentions 36 = .ok (.iconst 1, 1) := by decide +kernel
theorem qd_T_mentions_37 : decode qb_T_mentions 37 = .ok (.goto 4, 3) := by decide +kernel
theorem qd_T_mentions_40 : decode qb_T_mentions 40 = .ok (.iconst 0, 1) := by decide +kernel
theorem qd_T_mentions_41 : decode qb_T_mentions 41 = .ok (.ireturn, 1) := by decide +kernel
theorem qd_T_firstOf_0 : decode qb_T_firstOf 0 = .ok (.iload_n 1, 1) := by decide +kernel
theorem qd_T_firstOf_1 : decode qb_T_firstOf 1 = .ok (.ifCond .lt 20, 3) := by decide +kernel
theorem qd_T_firstOf_4 : decode qb_T_firstOf 4 = .ok (.iload_n 1, 1) := by decide +kernel
theorem qd_T_firstOf_5 : decode qb_T_firstOf 5 = .ok (.aload_n 0, 1) := by decide +kernel
theorem qd_T_firstOf_6 : decode qb_T_firstOf 6 = .ok (.getfield 45, 3) := by decide +kernel
theorem qd_T_firstOf_9 : decode qb_T_firstOf 9 = .ok (.if_icmp .ge 12, 3) := by decide +kernel
theorem qd_T_firstOf_12 : decode qb_T_firstOf 12 = .ok (.aload_n 0, 1) := by decide +kernel
theorem qd_T_firstOf_13 : decode qb_T_firstOf 13 = .ok (.getfield 20, 3) := by decide +kernel
theorem qd_T_firstOf_16 : decode qb_T_firstOf 16 = .ok (.iload_n 1, 1) := by decide +kernel
theorem qd_T_firstOf_17 : decode qb_T_firstOf 17 = .ok (.iaload, 1) := by decide +kernel
theorem qd_T_firstOf_18 : decode qb_T_firstOf 18 = .ok (.goto 4, 3) := by decide +kernel
theorem qd_T_firstOf_21 : decode qb_T_firstOf 21 = .ok (.iconst (-1), 1) := by decide +kernel
theorem qd_T_firstOf_22 : decode qb_T_firstOf 22 = .ok (.ireturn, 1) := by decide +kernel
theorem qd_T_argumentOf_0 : decode qb_T_argumentOf 0 = .ok (.iload_n 1, 1) := by decide +kernel
theorem qd_T_argumentOf_1 : decode qb_T_argumentOf 1 = .ok (.ifCond .lt 11, 3) := by decide +kernel
theorem qd_T_argumentOf_4 : decode qb_T_argumentOf 4 = .ok (.iload_n 1, 1) := by decide +kernel
theorem qd_T_argumentOf_5 : decode qb_T_argumentOf 5 = .ok (.aload_n 0, 1) := by decide +kernel
theorem qd_T_argumentOf_6 : decode qb_T_argumentOf 6 = .ok (.getfield 45, 3) := by decide +kernel
theorem qd_T_argumentOf_9 : decode qb_T_argumentOf 9 = .ok (.if_icmp .lt 5, 3) := by decide +kernel
theorem qd_T_argumentOf_12 : decode qb_T_argumentOf 12 = .ok (.iconst (-1), 1) := by decide +kernel
theorem qd_T_argumentOf_13 : decode qb_T_argumentOf 13 = .ok (.ireturn, 1) := by decide +kernel
theorem qd_T_argumentOf_14 : decode qb_T_argumentOf 14 = .ok (.iload_n 2, 1) := by decide +kernel
theorem qd_T_argumentOf_15 : decode qb_T_argumentOf 15 = .ok (.ifCond .ne 12, 3) := by decide +kernel
theorem qd_T_argumentOf_18 : decode qb_T_argumentOf 18 = .ok (.aload_n 0, 1) := by decide +kernel
theorem qd_T_argumentOf_19 : decode qb_T_argumentOf 19 = .ok (.getfield 20, 3) := by decide +kernel
theorem qd_T_argumentOf_22 : decode qb_T_argumentOf 22 = .ok (.iload_n 1, 1) := by decide +kernel
theorem qd_T_argumentOf_23 : decode qb_T_argumentOf 23 = .ok (.iaload, 1) := by decide +kernel
theorem qd_T_argumentOf_24 : decode qb_T_argumentOf 24 = .ok (.goto 9, 3) := by decide +kernel
theorem qd_T_argumentOf_27 : decode qb_T_argumentOf 27 = .ok (.aload_n 0, 1) := by decide +kernel
theorem qd_T_argumentOf_28 : decode qb_T_argumentOf 28 = .ok (.getfield 23, 3) := by decide +kernel
theorem qd_T_argumentOf_31 : decode qb_T_argumentOf 31 = .ok (.iload_n 1, 1) := by decide +kernel
theorem qd_T_argumentOf_32 : decode qb_T_argumentOf 32 = .ok (.iaload, 1) := by decide +kernel
theorem qd_T_argumentOf_33 : decode qb_T_argumentOf 33 = .ok (.ireturn, 1) := by decide +kernel
theorem qd_T_secondOf_0 : decode qb_T_secondOf 0 = .ok (.iload_n 1, 1) := by decide +kernel
theorem qd_T_secondOf_1 : decode qb_T_secondOf 1 = .ok (.ifCond .lt 20, 3) := by decide +kernel
theorem qd_T_secondOf_4 : decode qb_T_secondOf 4 = .ok (.iload_n 1, 1) := by decide +kernel
theorem qd_T_secondOf_5 : decode qb_T_secondOf 5 = .ok (.aload_n 0, 1) := by decide +kernel
theorem qd_T_secondOf_6 : decode qb_T_secondOf 6 = .ok (.getfield 45, 3) := by decide +kernel
theorem qd_T_secondOf_9 : decode qb_T_secondOf 9 = .ok (.if_icmp .ge 12, 3) := by decide +kernel
theorem qd_T_secondOf_12 : decode qb_T_secondOf 12 = .ok (.aload_n 0, 1) := by decide +kernel
theorem qd_T_secondOf_13 : decode qb_T_secondOf 13 = .ok (.getfield 23, 3) := by decide +kernel
theorem qd_T_secondOf_16 : decode qb_T_secondOf 16 = .ok (.iload_n 1, 1) := by decide +kernel
theorem qd_T_secondOf_17 : decode qb_T_secondOf 17 = .ok (.iaload, 1) := by decide +kernel
theorem qd_T_secondOf_18 : decode qb_T_secondOf 18 = .ok (.goto 4, 3) := by decide +kernel
theorem qd_T_secondOf_21 : decode qb_T_secondOf 21 = .ok (.iconst (-1), 1) := by decide +kernel
theorem qd_T_secondOf_22 : decode qb_T_secondOf 22 = .ok (.ireturn, 1) := by decide +kernel
theorem qd_T_dropTo_0 : decode qb_T_dropTo 0 = .ok (.iload_n 1, 1) := by decide +kernel
theorem qd_T_dropTo_1 : decode qb_T_dropTo 1 = .ok (.aload_n 0, 1) := by decide +kernel
theorem qd_T_dropTo_2 : decode qb_T_dropTo 2 = .ok (.getfield 41, 3) := by decide +kernel
theorem qd_T_dropTo_5 : decode qb_T_dropTo 5 = .ok (.if_icmp .lt 16, 3) := by decide +kernel
theorem qd_T_dropTo_8 : decode qb_T_dropTo 8 = .ok (.iload_n 1, 1) := by decide +kernel
theorem qd_T_dropTo_9 : decode qb_T_dropTo 9 = .ok (.aload_n 0, 1) := by decide +kernel
theorem qd_T_dropTo_10 : decode qb_T_dropTo 10 = .ok (.getfield 45, 3) := by decide +kernel
theorem qd_T_dropTo_13 : decode qb_T_dropTo 13 = .ok (.if_icmp .ge 8, 3) := by decide +kernel
theorem qd_T_dropTo_16 : decode qb_T_dropTo 16 = .ok (.aload_n 0, 1) := by decide +kernel
theorem qd_T_dropTo_17 : decode qb_T_dropTo 17 = .ok (.iload_n 1, 1) := by decide +kernel
theorem qd_T_dropTo_18 : decode qb_T_dropTo 18 = .ok (.putfield 45, 3) := by decide +kernel
theorem qd_T_dropTo_21 : decode qb_T_dropTo 21 = .ok (.return_, 1) := by decide +kernel
theorem qd_T_mayBeArgument_0 : decode qb_T_mayBeArgument 0 = .ok (.iload_n 1, 1) := by decide +kernel
theorem qd_T_mayBeArgument_1 : decode qb_T_mayBeArgument 1 = .ok (.ifCond .lt 25, 3) := by decide +kernel
theorem qd_T_mayBeArgument_4 : decode qb_T_mayBeArgument 4 = .ok (.iload_n 1, 1) := by decide +kernel
theorem qd_T_mayBeArgument_5 : decode qb_T_mayBeArgument 5 = .ok (.aload_n 0, 1) := by decide +kernel
theorem qd_T_mayBeArgument_6 : decode qb_T_mayBeArgument 6 = .ok (.getfield 41, 3) := by decide +kernel
theorem qd_T_mayBeArgument_9 : decode qb_T_mayBeArgument 9 = .ok (.if_icmp .ge 17, 3) := by decide +kernel
theorem qd_T_mayBeArgument_12 : decode qb_T_mayBeArgument 12 = .ok (.iload_n 1, 1) := by decide +kernel
theorem qd_T_mayBeArgument_13 : decode qb_T_mayBeArgument 13 = .ok (.iconst 1, 1) := by decide +kernel
theorem qd_T_mayBeArgument_14 : decode qb_T_mayBeArgument 14 = .ok (.if_icmp .eq 12, 3) := by decide +kernel
theorem qd_T_mayBeArgument_17 : decode qb_T_mayBeArgument 17 = .ok (.iload_n 1, 1) := by decide +kernel
theorem qd_T_mayBeArgument_18 : decode qb_T_mayBeArgument 18 = .ok (.iconst 2, 1) := by decide +kernel
theorem qd_T_mayBeArgument_19 : decode qb_T_mayBeArgument 19 = .ok (.if_icmp .eq 7, 3) := by decide +kernel
theorem qd_T_mayBeArgument_22 : decode qb_T_mayBeArgument 22 = .ok (.iconst 1, 1) := by decide +kernel
theorem qd_T_mayBeArgument_23 : decode qb_T_mayBeArgument 23 = .ok (.goto 4, 3) := by decide +kernel
theorem qd_T_mayBeArgument_26 : decode qb_T_mayBeArgument 26 = .ok (.iconst 0, 1) := by decide +kernel
theorem qd_T_mayBeArgument_27 : decode qb_T_mayBeArgument 27 = .ok (.ireturn, 1) := by decide +kernel
theorem qd_T_standsAlone_0 : decode qb_T_standsAlone 0 = .ok (.iload_n 1, 1) := by decide +kernel
theorem qd_T_standsAlone_1 : decode qb_T_standsAlone 1 = .ok (.ifCond .lt 25, 3) := by decide +kernel
theorem qd_T_standsAlone_4 : decode qb_T_standsAlone 4 = .ok (.iload_n 1, 1) := by decide +kernel
theorem qd_T_standsAlone_5 : decode qb_T_standsAlone 5 = .ok (.aload_n 0, 1) := by decide +kernel
theorem qd_T_standsAlone_6 : decode qb_T_standsAlone 6 = .ok (.getfield 41, 3) := by decide +kernel
theorem qd_T_standsAlone_9 : decode qb_T_standsAlone 9 = .ok (.if_icmp .ge 17, 3) := by decide +kernel
theorem qd_T_standsAlone_12 : decode qb_T_standsAlone 12 = .ok (.aload_n 0, 1) := by decide +kernel
theorem qd_T_standsAlone_13 : decode qb_T_standsAlone 13 = .ok (.getfield 13, 3) := by decide +kernel
theorem qd_T_standsAlone_16 : decode qb_T_standsAlone 16 = .ok (.iload_n 1, 1) := by decide +kernel
theorem qd_T_standsAlone_17 : decode qb_T_standsAlone 17 = .ok (.iaload, 1) := by decide +kernel
theorem qd_T_standsAlone_18 : decode qb_T_standsAlone 18 = .ok (.iconst 5, 1) := by decide +kernel
theorem qd_T_standsAlone_19 : decode qb_T_standsAlone 19 = .ok (.if_icmp .eq 7, 3) := by decide +kernel
theorem qd_T_standsAlone_22 : decode qb_T_standsAlone 22 = .ok (.iconst 1, 1) := by decide +kernel
theorem qd_T_standsAlone_23 : decode qb_T_standsAlone 23 = .ok (.goto 4, 3) := by decide +kernel
theorem qd_T_standsAlone_26 : decode qb_T_standsAlone 26 = .ok (.iconst 0, 1) := by decide +kernel
theorem qd_T_standsAlone_27 : decode qb_T_standsAlone 27 = .ok (.ireturn, 1) := by decide +kernel
theorem qd_T_depthOf_0 : decode qb_T_depthOf 0 = .ok (.iload_n 1, 1) := by decide +kernel
theorem qd_T_depthOf_1 : decode qb_T_depthOf 1 = .ok (.ifCond .lt 20, 3) := by decide +kernel
theorem qd_T_depthOf_4 : decode qb_T_depthOf 4 = .ok (.iload_n 1, 1) := by decide +kernel
theorem qd_T_depthOf_5 : decode qb_T_depthOf 5 = .ok (.aload_n 0, 1) := by decide +kernel
theorem qd_T_depthOf_6 : decode qb_T_depthOf 6 = .ok (.getfield 45, 3) := by decide +kernel
theorem qd_T_depthOf_9 : decode qb_T_depthOf 9 = .ok (.if_icmp .ge 12, 3) := by decide +kernel
theorem qd_T_depthOf_12 : decode qb_T_depthOf 12 = .ok (.aload_n 0, 1) := by decide +kernel
theorem qd_T_depthOf_13 : decode qb_T_depthOf 13 = .ok (.getfield 26, 3) := by decide +kernel
theorem qd_T_depthOf_16 : decode qb_T_depthOf 16 = .ok (.iload_n 1, 1) := by decide +kernel
theorem qd_T_depthOf_17 : decode qb_T_depthOf 17 = .ok (.iaload, 1) := by decide +kernel
theorem qd_T_depthOf_18 : decode qb_T_depthOf 18 = .ok (.goto 4, 3) := by decide +kernel
theorem qd_T_depthOf_21 : decode qb_T_depthOf 21 = .ok (.iconst 0, 1) := by decide +kernel
theorem qd_T_depthOf_22 : decode qb_T_depthOf 22 = .ok (.ireturn, 1) := by decide +kernel
theorem qd_T_isVariable_0 : decode qb_T_isVariable 0 = .ok (.aload_n 0, 1) := by decide +kernel
theorem qd_T_isVariable_1 : decode qb_T_isVariable 1 = .ok (.iload_n 1, 1) := by decide +kernel
theorem qd_T_isVariable_2 : decode qb_T_isVariable 2 = .ok (.invokevirtual 52, 3) := by decide +kernel
theorem qd_T_isVariable_5 : decode qb_T_isVariable 5 = .ok (.istore_n 2, 1) := by decide +kernel
theorem qd_T_isVariable_6 : decode qb_T_isVariable 6 = .ok (.iload_n 2, 1) := by decide +kernel
theorem qd_T_isVariable_7 : decode qb_T_isVariable 7 = .ok (.iconst 3, 1) := by decide +kernel
theorem qd_T_isVariable_8 : decode qb_T_isVariable 8 = .ok (.if_icmp .eq 9, 3) := by decide +kernel
theorem qd_T_isVariable_11 : decode qb_T_isVariable 11 = .ok (.iload_n 2, 1) := by decide +kernel
theorem qd_T_isVariable_12 : decode qb_T_isVariable 12 = .ok (.bipush 8, 2) := by decide +kernel
theorem qd_T_isVariable_14 : decode qb_T_isVariable 14 = .ok (.if_icmp .ne 7, 3) := by decide +kernel
theorem qd_T_isVariable_17 : decode qb_T_isVariable 17 = .ok (.iconst 1, 1) := by decide +kernel
theorem qd_T_isVariable_18 : decode qb_T_isVariable 18 = .ok (.goto 4, 3) := by decide +kernel
theorem qd_T_isVariable_21 : decode qb_T_isVariable 21 = .ok (.iconst 0, 1) := by decide +kernel
theorem qd_T_isVariable_22 : decode qb_T_isVariable 22 = .ok (.ireturn, 1) := by decide +kernel
theorem qd_T_upOf_0 : decode qb_T_upOf 0 = .ok (.iload_n 1, 1) := by decide +kernel
theorem qd_T_upOf_1 : decode qb_T_upOf 1 = .ok (.ifCond .lt 20, 3) := by decide +kernel
theorem qd_T_upOf_4 : decode qb_T_upOf 4 = .ok (.iload_n 1, 1) := by decide +kernel
theorem qd_T_upOf_5 : decode qb_T_upOf 5 = .ok (.aload_n 0, 1) := by decide +kernel
theorem qd_T_upOf_6 : decode qb_T_upOf 6 = .ok (.getfield 45, 3) := by decide +kernel
theorem qd_T_upOf_9 : decode qb_T_upOf 9 = .ok (.if_icmp .ge 12, 3) := by decide +kernel
theorem qd_T_upOf_12 : decode qb_T_upOf 12 = .ok (.aload_n 0, 1) := by decide +kernel
theorem qd_T_upOf_13 : decode qb_T_upOf 13 = .ok (.getfield 32, 3) := by decide +kernel
theorem qd_T_upOf_16 : decode qb_T_upOf 16 = .ok (.iload_n 1, 1) := by decide +kernel
theorem qd_T_upOf_17 : decode qb_T_upOf 17 = .ok (.iaload, 1) := by decide +kernel
theorem qd_T_upOf_18 : decode qb_T_upOf 18 = .ok (.goto 4, 3) := by decide +kernel
theorem qd_T_upOf_21 : decode qb_T_upOf 21 = .ok (.iconst (-1), 1) := by decide +kernel
theorem qd_T_upOf_22 : decode qb_T_upOf 22 = .ok (.ireturn, 1) := by decide +kernel
theorem qd_T_lowOf_0 : decode qb_T_lowOf 0 = .ok (.iload_n 1, 1) := by decide +kernel
theorem qd_T_lowOf_1 : decode qb_T_lowOf 1 = .ok (.ifCond .lt 20, 3) := by decide +kernel
theorem qd_T_lowOf_4 : decode qb_T_lowOf 4 = .ok (.iload_n 1, 1) := by decide +kernel
theorem qd_T_lowOf_5 : decode qb_T_lowOf 5 = .ok (.aload_n 0, 1) := by decide +kernel
theorem qd_T_lowOf_6 : decode qb_T_lowOf 6 = .ok (.getfield 45, 3) := by decide +kernel
theorem qd_T_lowOf_9 : decode qb_T_lowOf 9 = .ok (.if_icmp .ge 12, 3) := by decide +kernel
theorem qd_T_lowOf_12 : decode qb_T_lowOf 12 = .ok (.aload_n 0, 1) := by decide +kernel
theorem qd_T_lowOf_13 : decode qb_T_lowOf 13 = .ok (.getfield 35, 3) := by decide +kernel
theorem qd_T_lowOf_16 : decode qb_T_lowOf 16 = .ok (.iload_n 1, 1) := by decide +kernel
theorem qd_T_lowOf_17 : decode qb_T_lowOf 17 = .ok (.iaload, 1) := by decide +kernel
theorem qd_T_lowOf_18 : decode qb_T_lowOf 18 = .ok (.goto 4, 3) := by decide +kernel
theorem qd_T_lowOf_21 : decode qb_T_lowOf 21 = .ok (.iconst (-1), 1) := by decide +kernel
theorem qd_T_lowOf_22 : decode qb_T_lowOf 22 = .ok (.ireturn, 1) := by decide +kernel
theorem qd_T_hasWildArgument_0 : decode qb_T_hasWildArgument 0 = .ok (.aload_n 0, 1) := by decide +kernel
theorem qd_T_hasWildArgument_1 : decode qb_T_hasWildArgument 1 = .ok (.iload_n 1, 1) := by decide +kernel
theorem qd_T_hasWildArgument_2 : decode qb_T_hasWildArgument 2 = .ok (.invokevirtual 52, 3) := by decide +kernel
theorem qd_T_hasWildArgument_5 : decode qb_T_hasWildArgument 5 = .ok (.iconst 2, 1) := by decide +kernel
theorem qd_T_hasWildArgument_6 : decode qb_T_hasWildArgument 6 = .ok (.if_icmp .ne 33, 3) := by decide +kernel
theorem qd_T_hasWildArgument_9 : decode qb_T_hasWildArgument 9 = .ok (.aload_n 0, 1) := by decide +kernel
theorem qd_T_hasWildArgument_10 : decode qb_T_hasWildArgument 10 = .ok (.aload_n 0, 1) := by decide +kernel
theorem qd_T_hasWildArgument_11 : decode qb_T_hasWildArgument 11 = .ok (.iload_n 1, 1) := by decide +kernel
theorem qd_T_hasWildArgument_12 : decode qb_T_hasWildArgument 12 = .ok (.invokevirtual 56, 3) := by decide +kernel
theorem qd_T_hasWildArgument_15 : decode qb_T_hasWildArgument 15 = .ok (.invokevirtual 52, 3) := by decide +kernel
theorem qd_T_hasWildArgument_18 : decode qb_T_hasWildArgument 18 = .ok (.iconst 5, 1) := by decide +kernel
theorem qd_T_hasWildArgument_19 : decode qb_T_hasWildArgument 19 = .ok (.if_icmp .eq 16, 3) := by decide +kernel
theorem qd_T_hasWildArgument_22 : decode qb_T_hasWildArgument 22 = .ok (.aload_n 0, 1) := by decide +kernel
theorem qd_T_hasWildArgument_23 : decode qb_T_hasWildArgument 23 = .ok (.aload_n 0, 1) := by decide +kernel
theorem qd_T_hasWildArgument_24 : decode qb_T_hasWildArgument 24 = .ok (.iload_n 1, 1) := by decide +kernel
theorem qd_T_hasWildArgument_25 : decode qb_T_hasWildArgument 25 = .ok (.invokevirtual 59, 3) := by decide +kernel
theorem qd_T_hasWildArgument_28 : decode qb_T_hasWildArgument 28 = .ok (.invokevirtual 52, 3) := by decide +kernel
theorem qd_T_hasWildArgument_31 : decode qb_T_hasWildArgument 31 = .ok (.iconst 5, 1) := by decide +kernel
theorem qd_T_hasWildArgument_32 : decode qb_T_hasWildArgument 32 = .ok (.if_icmp .ne 7, 3) := by decide +kernel
theorem qd_T_hasWildArgument_35 : decode qb_T_hasWildArgument 35 = .ok (.iconst 1, 1) := by decide +kernel
theorem qd_T_hasWildArgument_36 : decode qb_T_hasWildArgument 36 = .ok (.goto 4, 3) := by decide +kernel
theorem qd_T_hasWildArgument_39 : decode qb_T_hasWildArgument 39 = .ok (.iconst 0, 1) := by decide +kernel
theorem qd_T_hasWildArgument_40 : decode qb_T_hasWildArgument 40 = .ok (.ireturn, 1) := by decide +kernel
theorem qd_T_hold_0 : decode qb_T_hold 0 = .ok (.aload_n 0, 1) := by decide +kernel
theorem qd_T_hold_1 : decode qb_T_hold 1 = .ok (.iload_n 3, 1) := by decide +kernel
theorem qd_T_hold_2 : decode qb_T_hold 2 = .ok (.invokevirtual 52, 3) := by decide +kernel
theorem qd_T_hold_5 : decode qb_T_hold 5 = .ok (.iconst 5, 1) := by decide +kernel
theorem qd_T_hold_6 : decode qb_T_hold 6 = .ok (.if_icmp .eq 5, 3) := by decide +kernel
theorem qd_T_hold_9 : decode qb_T_hold 9 = .ok (.iload_n 3, 1) := by decide +kernel
theorem qd_T_hold_10 : decode qb_T_hold 10 = .ok (.ireturn, 1) := by decide +kernel
theorem qd_T_hold_11 : decode qb_T_hold 11 = .ok (.aload_n 0, 1) := by decide +kernel
theorem qd_T_hold_12 : decode qb_T_hold 12 = .ok (.bipush 8, 2) := by decide +kernel
theorem qd_T_hold_14 : decode qb_T_hold 14 = .ok (.iload_n 1, 1) := by decide +kernel
theorem qd_T_hold_15 : decode qb_T_hold 15 = .ok (.iload_n 2, 1) := by decide +kernel
theorem qd_T_hold_16 : decode qb_T_hold 16 = .ok (.iconst (-1), 1) := by decide +kernel
theorem qd_T_hold_17 : decode qb_T_hold 17 = .ok (.sipush 1024, 3) := by decide +kernel
theorem qd_T_hold_20 : decode qb_T_hold 20 = .ok (.invokevirtual 62, 3) := by decide +kernel
theorem qd_T_hold_23 : decode qb_T_hold 23 = .ok (.istore 4, 2) := by decide +kernel
theorem qd_T_hold_25 : decode qb_T_hold 25 = .ok (.iload 4, 2) := by decide +kernel
theorem qd_T_hold_27 : decode qb_T_hold 27 = .ok (.ifCond .lt 62, 3) := by decide +kernel
theorem qd_T_hold_30 : decode qb_T_hold 30 = .ok (.iload 4, 2) := by decide +kernel
theorem qd_T_hold_32 : decode qb_T_hold 32 = .ok (.aload_n 0, 1) := by decide +kernel
theorem qd_T_hold_33 : decode qb_T_hold 33 = .ok (.getfield 45, 3) := by decide +kernel
theorem qd_T_hold_36 : decode qb_T_hold 36 = .ok (.if_icmp .ge 53, 3) := by decide +kernel
theorem qd_T_hold_39 : decode qb_T_hold 39 = .ok (.aload_n 0, 1) := by decide +kernel
theorem qd_T_hold_40 : decode qb_T_hold 40 = .ok (.getfield 32, 3) := by decide +kernel
theorem qd_T_hold_43 : decode qb_T_hold 43 = .ok (.iload 4, 2) := by decide +kernel
theorem qd_T_hold_45 : decode qb_T_hold 45 = .ok (.aload_n 0, 1) := by decide +kernel
theorem qd_T_hold_46 : decode qb_T_hold 46 = .ok (.iload_n 3, 1) := by decide +kernel
theorem qd_T_hold_47 : decode qb_T_hold 47 = .ok (.invokevirtual 66, 3) := by decide +kernel
theorem qd_T_hold_50 : decode qb_T_hold 50 = .ok (.iconst 1, 1) := by decide +kernel
theorem qd_T_hold_51 : decode qb_T_hold 51 = .ok (.if_icmp .ne 11, 3) := by decide +kernel
theorem qd_T_hold_54 : decode qb_T_hold 54 = .ok (.aload_n 0, 1) := by decide +kernel
theorem qd_T_hold_55 : decode qb_T_hold 55 = .ok (.iload_n 3, 1) := by decide +kernel
theorem qd_T_hold_56 : decode qb_T_hold 56 = .ok (.invokevirtual 56, 3) := by decide +kernel
theorem qd_T_hold_59 : decode qb_T_hold 59 = .ok (.goto 4, 3) := by decide +kernel
theorem qd_T_hold_62 : decode qb_T_hold 62 = .ok (.iconst (-1), 1) := by decide +kernel
theorem qd_T_hold_63 : decode qb_T_hold 63 = .ok (.iastore, 1) := by decide +kernel
theorem qd_T_hold_64 : decode qb_T_hold 64 = .ok (.aload_n 0, 1) := by decide +kernel
theorem qd_T_hold_65 : decode qb_T_hold 65 = .ok (.getfield 35, 3) := by decide +kernel
theorem qd_T_hold_68 : decode qb_T_hold 68 = .ok (.iload 4, 2) := by decide +kernel
theorem qd_T_hold_70 : decode qb_T_hold 70 = .ok (.aload_n 0, 1) := by decide +kernel
theorem qd_T_hold_71 : decode qb_T_hold 71 = .ok (.iload_n 3, 1) := by decide +kernel
theorem qd_T_hold_72 : decode qb_T_hold 72 = .ok (.invokevirtual 66, 3) := by decide +kernel
theorem qd_T_hold_75 : decode qb_T_hold 75 = .ok (.iconst 2, 1) := by decide +kernel
theorem qd_T_hold_76 : decode qb_T_hold 76 = .ok (.if_icmp .ne 11, 3) := by decide +kernel
theorem qd_T_hold_79 : decode qb_T_hold 79 = .ok (.aload_n 0, 1) := by decide +kernel
theorem qd_T_hold_80 : decode qb_T_hold 80 = .ok (.iload_n 3, 1) := by decide +kernel
theorem qd_T_hold_81 : decode qb_T_hold 81 = .ok (.invokevirtual 56, 3) := by decide +kernel
theorem qd_T_hold_84 : decode qb_T_hold 84 = .ok (.goto 4, 3) := by decide +kernel
theorem qd_T_hold_87 : decode qb_T_hold 87 = .ok (.iconst (-1), 1) := by decide +kernel
theorem qd_T_hold_88 : decode qb_T_hold 88 = .ok (.iastore, 1) := by decide +kernel
theorem qd_T_hold_89 : decode qb_T_hold 89 = .ok (.iload 4, 2) := by decide +kernel
theorem qd_T_hold_91 : decode qb_T_hold 91 = .ok (.ireturn, 1) := by decide +kernel
theorem qd_T_setHome_0 : decode qb_T_setHome 0 = .ok (.iload_n 1, 1) := by decide +kernel
theorem qd_T_setHome_1 : decode qb_T_setHome 1 = .ok (.ifCond .lt 39, 3) := by decide +kernel
theorem qd_T_setHome_4 : decode qb_T_setHome 4 = .ok (.iload_n 1, 1) := by decide +kernel
theorem qd_T_setHome_5 : decode qb_T_setHome 5 = .ok (.aload_n 0, 1) := by decide +kernel
theorem qd_T_setHome_6 : decode qb_T_setHome 6 = .ok (.getfield 45, 3) := by decide +kernel
theorem qd_T_setHome_9 : decode qb_T_setHome 9 = .ok (.if_icmp .ge 31, 3) := by decide +kernel
theorem qd_T_setHome_12 : decode qb_T_setHome 12 = .ok (.aload_n 0, 1) := by decide +kernel
theorem qd_T_setHome_13 : decode qb_T_setHome 13 = .ok (.getfield 13, 3) := by decide +kernel
theorem qd_T_setHome_16 : decode qb_T_setHome 16 = .ok (.iload_n 1, 1) := by decide +kernel
theorem qd_T_setHome_17 : decode qb_T_setHome 17 = .ok (.iaload, 1) := by decide +kernel
theorem qd_T_setHome_18 : decode qb_T_setHome 18 = .ok (.bipush 8, 2) := by decide +kernel
theorem qd_T_setHome_20 : decode qb_T_setHome 20 = .ok (.if_icmp .ne 20, 3) := by decide +kernel
theorem qd_T_setHome_23 : decode qb_T_setHome 23 = .ok (.aload_n 0, 1) := by decide +kernel
theorem qd_T_setHome_24 : decode qb_T_setHome 24 = .ok (.getfield 23, 3) := by decide +kernel
theorem qd_T_setHome_27 : decode qb_T_setHome 27 = .ok (.iload_n 1, 1) := by decide +kernel
theorem qd_T_setHome_28 : decode qb_T_setHome 28 = .ok (.iaload, 1) := by decide +kernel
theorem qd_T_setHome_29 : decode qb_T_setHome 29 = .ok (.iconst (-1), 1) := by decide +kernel
theorem qd_T_setHome_30 : decode qb_T_setHome 30 = .ok (.if_icmp .ne 10, 3) := by decide +kernel
theorem qd_T_setHome_33 : decode qb_T_setHome 33 = .ok (.aload_n 0, 1) := by decide +kernel
theorem qd_T_setHome_34 : decode qb_T_setHome 34 = .ok (.getfield 23, 3) := by decide +kernel
theorem qd_T_setHome_37 : decode qb_T_setHome 37 = .ok (.iload_n 1, 1) := by decide +kernel
theorem qd_T_setHome_38 : decode qb_T_setHome 38 = .ok (.iload_n 2, 1) := by decide +kernel
theorem qd_T_setHome_39 : decode qb_T_setHome 39 = .ok (.iastore, 1) := by decide +kernel
theorem qd_T_setHome_40 : decode qb_T_setHome 40 = .ok (.return_, 1) := by decide +kernel
