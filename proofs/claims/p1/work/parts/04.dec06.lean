theorem qd_M_init_0 : decode qb_M_init 0 = .ok (.aload_n 0, 1) := by decide +kernel
theorem qd_M_init_1 : decode qb_M_init 1 = .ok (.invokespecial 1, 3) := by decide +kernel
theorem qd_M_init_4 : decode qb_M_init 4 = .ok (.aload_n 0, 1) := by decide +kernel
theorem qd_M_init_5 : decode qb_M_init 5 = .ok (.bipush 12, 2) := by decide +kernel
theorem qd_M_init_7 : decode qb_M_init 7 = .ok (.newarray .int, 2) := by decide +kernel
theorem qd_M_init_9 : decode qb_M_init 9 = .ok (.putfield 7, 3) := by decide +kernel
theorem qd_M_init_12 : decode qb_M_init 12 = .ok (.aload_n 0, 1) := by decide +kernel
theorem qd_M_init_13 : decode qb_M_init 13 = .ok (.bipush 12, 2) := by decide +kernel
theorem qd_M_init_15 : decode qb_M_init 15 = .ok (.newarray .int, 2) := by decide +kernel
theorem qd_M_init_17 : decode qb_M_init 17 = .ok (.putfield 13, 3) := by decide +kernel
theorem qd_M_init_20 : decode qb_M_init 20 = .ok (.aload_n 0, 1) := by decide +kernel
theorem qd_M_init_21 : decode qb_M_init 21 = .ok (.bipush 36, 2) := by decide +kernel
theorem qd_M_init_23 : decode qb_M_init 23 = .ok (.newarray .int, 2) := by decide +kernel
theorem qd_M_init_25 : decode qb_M_init 25 = .ok (.putfield 16, 3) := by decide +kernel
theorem qd_M_init_28 : decode qb_M_init 28 = .ok (.aload_n 0, 1) := by decide +kernel
theorem qd_M_init_29 : decode qb_M_init 29 = .ok (.bipush 12, 2) := by decide +kernel
theorem qd_M_init_31 : decode qb_M_init 31 = .ok (.newarray .int, 2) := by decide +kernel
theorem qd_M_init_33 : decode qb_M_init 33 = .ok (.putfield 19, 3) := by decide +kernel
theorem qd_M_init_36 : decode qb_M_init 36 = .ok (.aload_n 0, 1) := by decide +kernel
theorem qd_M_init_37 : decode qb_M_init 37 = .ok (.bipush 48, 2) := by decide +kernel
theorem qd_M_init_39 : decode qb_M_init 39 = .ok (.newarray .int, 2) := by decide +kernel
theorem qd_M_init_41 : decode qb_M_init 41 = .ok (.putfield 22, 3) := by decide +kernel
theorem qd_M_init_44 : decode qb_M_init 44 = .ok (.aload_n 0, 1) := by decide +kernel
theorem qd_M_init_45 : decode qb_M_init 45 = .ok (.bipush 24, 2) := by decide +kernel
theorem qd_M_init_47 : decode qb_M_init 47 = .ok (.newarray .int, 2) := by decide +kernel
theorem qd_M_init_49 : decode qb_M_init 49 = .ok (.putfield 25, 3) := by decide +kernel
theorem qd_M_init_52 : decode qb_M_init 52 = .ok (.aload_n 0, 1) := by decide +kernel
theorem qd_M_init_53 : decode qb_M_init 53 = .ok (.sipush 9000, 3) := by decide +kernel
theorem qd_M_init_56 : decode qb_M_init 56 = .ok (.newarray .int, 2) := by decide +kernel
theorem qd_M_init_58 : decode qb_M_init 58 = .ok (.putfield 28, 3) := by decide +kernel
theorem qd_M_init_61 : decode qb_M_init 61 = .ok (.aload_n 0, 1) := by decide +kernel
theorem qd_M_init_62 : decode qb_M_init 62 = .ok (.sipush 9000, 3) := by decide +kernel
theorem qd_M_init_65 : decode qb_M_init 65 = .ok (.newarray .int, 2) := by decide +kernel
theorem qd_M_init_67 : decode qb_M_init 67 = .ok (.putfield 31, 3) := by decide +kernel
theorem qd_M_init_70 : decode qb_M_init 70 = .ok (.aload_n 0, 1) := by decide +kernel
theorem qd_M_init_71 : decode qb_M_init 71 = .ok (.sipush 9000, 3) := by decide +kernel
theorem qd_M_init_74 : decode qb_M_init 74 = .ok (.newarray .int, 2) := by decide +kernel
theorem qd_M_init_76 : decode qb_M_init 76 = .ok (.putfield 34, 3) := by decide +kernel
theorem qd_M_init_79 : decode qb_M_init 79 = .ok (.aload_n 0, 1) := by decide +kernel
theorem qd_M_init_80 : decode qb_M_init 80 = .ok (.sipush 9000, 3) := by decide +kernel
theorem qd_M_init_83 : decode qb_M_init 83 = .ok (.newarray .int, 2) := by decide +kernel
theorem qd_M_init_85 : decode qb_M_init 85 = .ok (.putfield 37, 3) := by decide +kernel
theorem qd_M_init_88 : decode qb_M_init 88 = .ok (.aload_n 0, 1) := by decide +kernel
theorem qd_M_init_89 : decode qb_M_init 89 = .ok (.sipush 9000, 3) := by decide +kernel
theorem qd_M_init_92 : decode qb_M_init 92 = .ok (.newarray .int, 2) := by decide +kernel
theorem qd_M_init_94 : decode qb_M_init 94 = .ok (.putfield 40, 3) := by decide +kernel
theorem qd_M_init_97 : decode qb_M_init 97 = .ok (.aload_n 0, 1) := by decide +kernel
theorem qd_M_init_98 : decode qb_M_init 98 = .ok (.sipush 9000, 3) := by decide +kernel
theorem qd_M_init_101 : decode qb_M_init 101 = .ok (.newarray .int, 2) := by decide +kernel
theorem qd_M_init_103 : decode qb_M_init 103 = .ok (.putfield 43, 3) := by decide +kernel
theorem qd_M_init_106 : decode qb_M_init 106 = .ok (.aload_n 0, 1) := by decide +kernel
theorem qd_M_init_107 : decode qb_M_init 107 = .ok (.sipush 3000, 3) := by decide +kernel
theorem qd_M_init_110 : decode qb_M_init 110 = .ok (.newarray .int, 2) := by decide +kernel
theorem qd_M_init_112 : decode qb_M_init 112 = .ok (.putfield 46, 3) := by decide +kernel
theorem qd_M_init_115 : decode qb_M_init 115 = .ok (.aload_n 0, 1) := by decide +kernel
theorem qd_M_init_116 : decode qb_M_init 116 = .ok (.sipush 3000, 3) := by decide +kernel
theorem qd_M_init_119 : decode qb_M_init 119 = .ok (.newarray .int, 2) := by decide +kernel
theorem qd_M_init_121 : decode qb_M_init 121 = .ok (.putfield 49, 3) := by decide +kernel
theorem qd_M_init_124 : decode qb_M_init 124 = .ok (.aload_n 0, 1) := by decide +kernel
theorem qd_M_init_125 : decode qb_M_init 125 = .ok (.sipush 144, 3) := by decide +kernel
theorem qd_M_init_128 : decode qb_M_init 128 = .ok (.newarray .boolean, 2) := by decide +kernel
theorem qd_M_init_130 : decode qb_M_init 130 = .ok (.putfield 52, 3) := by decide +kernel
theorem qd_M_init_133 : decode qb_M_init 133 = .ok (.aload_n 0, 1) := by decide +kernel
theorem qd_M_init_134 : decode qb_M_init 134 = .ok (.sipush 144, 3) := by decide +kernel
theorem qd_M_init_137 : decode qb_M_init 137 = .ok (.newarray .boolean, 2) := by decide +kernel
theorem qd_M_init_139 : decode qb_M_init 139 = .ok (.putfield 56, 3) := by decide +kernel
theorem qd_M_init_142 : decode qb_M_init 142 = .ok (.aload_n 0, 1) := by decide +kernel
theorem qd_M_init_143 : decode qb_M_init 143 = .ok (.sipush 9000, 3) := by decide +kernel
theorem qd_M_init_146 : decode qb_M_init 146 = .ok (.newarray .int, 2) := by decide +kernel
theorem qd_M_init_148 : decode qb_M_init 148 = .ok (.putfield 59, 3) := by decide +kernel
theorem qd_M_init_151 : decode qb_M_init 151 = .ok (.aload_n 0, 1) := by decide +kernel
theorem qd_M_init_152 : decode qb_M_init 152 = .ok (.sipush 9000, 3) := by decide +kernel
theorem qd_M_init_155 : decode qb_M_init 155 = .ok (.newarray .boolean, 2) := by decide +kernel
theorem qd_M_init_157 : decode qb_M_init 157 = .ok (.putfield 62, 3) := by decide +kernel
theorem qd_M_init_160 : decode qb_M_init 160 = .ok (.aload_n 0, 1) := by decide +kernel
theorem qd_M_init_161 : decode qb_M_init 161 = .ok (.iconst 2, 1) := by decide +kernel
theorem qd_M_init_162 : decode qb_M_init 162 = .ok (.newarray .int, 2) := by decide +kernel
theorem qd_M_init_164 : decode qb_M_init 164 = .ok (.putfield 65, 3) := by decide +kernel
theorem qd_M_init_167 : decode qb_M_init 167 = .ok (.aload_n 0, 1) := by decide +kernel
theorem qd_M_init_168 : decode qb_M_init 168 = .ok (.sipush 3000, 3) := by decide +kernel
theorem qd_M_init_171 : decode qb_M_init 171 = .ok (.newarray .int, 2) := by decide +kernel
theorem qd_M_init_173 : decode qb_M_init 173 = .ok (.putfield 68, 3) := by decide +kernel
theorem qd_M_init_176 : decode qb_M_init 176 = .ok (.aload_n 0, 1) := by decide +kernel
theorem qd_M_init_177 : decode qb_M_init 177 = .ok (.sipush 3000, 3) := by decide +kernel
theorem qd_M_init_180 : decode qb_M_init 180 = .ok (.newarray .int, 2) := by decide +kernel
theorem qd_M_init_182 : decode qb_M_init 182 = .ok (.putfield 71, 3) := by decide +kernel
theorem qd_M_init_185 : decode qb_M_init 185 = .ok (.aload_n 0, 1) := by decide +kernel
theorem qd_M_init_186 : decode qb_M_init 186 = .ok (.sipush 3000, 3) := by decide +kernel
theorem qd_M_init_189 : decode qb_M_init 189 = .ok (.newarray .int, 2) := by decide +kernel
theorem qd_M_init_191 : decode qb_M_init 191 = .ok (.putfield 74, 3) := by decide +kernel
theorem qd_M_init_194 : decode qb_M_init 194 = .ok (.aload_n 0, 1) := by decide +kernel
theorem qd_M_init_195 : decode qb_M_init 195 = .ok (.sipush 3000, 3) := by decide +kernel
theorem qd_M_init_198 : decode qb_M_init 198 = .ok (.newarray .int, 2) := by decide +kernel
theorem qd_M_init_200 : decode qb_M_init 200 = .ok (.putfield 77, 3) := by decide +kernel
theorem qd_M_init_203 : decode qb_M_init 203 = .ok (.aload_n 0, 1) := by decide +kernel
theorem qd_M_init_204 : decode qb_M_init 204 = .ok (.sipush 3000, 3) := by decide +kernel
theorem qd_M_init_207 : decode qb_M_init 207 = .ok (.newarray .int, 2) := by decide +kernel
theorem qd_M_init_209 : decode qb_M_init 209 = .ok (.putfield 80, 3) := by decide +kernel
theorem qd_M_init_212 : decode qb_M_init 212 = .ok (.aload_n 0, 1) := by decide +kernel
theorem qd_M_init_213 : decode qb_M_init 213 = .ok (.sipush 3000, 3) := by decide +kernel
theorem qd_M_init_216 : decode qb_M_init 216 = .ok (.newarray .int, 2) := by decide +kernel
theorem qd_M_init_218 : decode qb_M_init 218 = .ok (.putfield 83, 3) := by decide +kernel
theorem qd_M_init_221 : decode qb_M_init 221 = .ok (.aload_n 0, 1) := by decide +kernel
theorem qd_M_init_222 : decode qb_M_init 222 = .ok (.sipush 3000, 3) := by decide +kernel
theorem qd_M_init_225 : decode qb_M_init 225 = .ok (.newarray .int, 2) := by decide +kernel
theorem qd_M_init_227 : decode qb_M_init 227 = .ok (.putfield 86, 3) := by decide +kernel
theorem qd_M_init_230 : decode qb_M_init 230 = .ok (.aload_n 0, 1) := by decide +kernel
theorem qd_M_init_231 : decode qb_M_init 231 = .ok (.sipush 144, 3) := by decide +kernel
theorem qd_M_init_234 : decode qb_M_init 234 = .ok (.newarray .int, 2) := by decide +kernel
theorem qd_M_init_236 : decode qb_M_init 236 = .ok (.putfield 89, 3) := by decide +kernel
theorem qd_M_init_239 : decode qb_M_init 239 = .ok (.aload_n 0, 1) := by decide +kernel
theorem qd_M_init_240 : decode qb_M_init 240 = .ok (.invokevirtual 92, 3) := by decide +kernel
theorem qd_M_init_243 : decode qb_M_init 243 = .ok (.return_, 1) := by decide +kernel
theorem qd_M_begin_0 : decode qb_M_begin 0 = .ok (.aload_n 0, 1) := by decide +kernel
theorem qd_M_begin_1 : decode qb_M_begin 1 = .ok (.iconst 1, 1) := by decide +kernel
theorem qd_M_begin_2 : decode qb_M_begin 2 = .ok (.putfield 95, 3) := by decide +kernel
theorem qd_M_begin_5 : decode qb_M_begin 5 = .ok (.aload_n 0, 1) := by decide +kernel
theorem qd_M_begin_6 : decode qb_M_begin 6 = .ok (.getfield 7, 3) := by decide +kernel
theorem qd_M_begin_9 : decode qb_M_begin 9 = .ok (.iconst 0, 1) := by decide +kernel
theorem qd_M_begin_10 : decode qb_M_begin 10 = .ok (.iconst 0, 1) := by decide +kernel
theorem qd_M_begin_11 : decode qb_M_begin 11 = .ok (.iastore, 1) := by decide +kernel
theorem qd_M_begin_12 : decode qb_M_begin 12 = .ok (.aload_n 0, 1) := by decide +kernel
theorem qd_M_begin_13 : decode qb_M_begin 13 = .ok (.getfield 13, 3) := by decide +kernel
theorem qd_M_begin_16 : decode qb_M_begin 16 = .ok (.iconst 0, 1) := by decide +kernel
theorem qd_M_begin_17 : decode qb_M_begin 17 = .ok (.iconst 0, 1) := by decide +kernel
theorem qd_M_begin_18 : decode qb_M_begin 18 = .ok (.iastore, 1) := by decide +kernel
theorem qd_M_begin_19 : decode qb_M_begin 19 = .ok (.aload_n 0, 1) := by decide +kernel
theorem qd_M_begin_20 : decode qb_M_begin 20 = .ok (.getfield 19, 3) := by decide +kernel
theorem qd_M_begin_23 : decode qb_M_begin 23 = .ok (.iconst 0, 1) := by decide +kernel
theorem qd_M_begin_24 : decode qb_M_begin 24 = .ok (.iconst 0, 1) := by decide +kernel
theorem qd_M_begin_25 : decode qb_M_begin 25 = .ok (.iastore, 1) := by decide +kernel
theorem qd_M_begin_26 : decode qb_M_begin 26 = .ok (.aload_n 0, 1) := by decide +kernel
theorem qd_M_begin_27 : decode qb_M_begin 27 = .ok (.getfield 16, 3) := by decide +kernel
theorem qd_M_begin_30 : decode qb_M_begin 30 = .ok (.iconst 0, 1) := by decide +kernel
theorem qd_M_begin_31 : decode qb_M_begin 31 = .ok (.iconst (-1), 1) := by decide +kernel
theorem qd_M_begin_32 : decode qb_M_begin 32 = .ok (.iastore, 1) := by decide +kernel
theorem qd_M_begin_33 : decode qb_M_begin 33 = .ok (.aload_n 0, 1) := by decide +kernel
theorem qd_M_begin_34 : decode qb_M_begin 34 = .ok (.iconst 0, 1) := by decide +kernel
theorem qd_M_begin_35 : decode qb_M_begin 35 = .ok (.putfield 99, 3) := by decide +kernel
theorem qd_M_begin_38 : decode qb_M_begin 38 = .ok (.aload_n 0, 1) := by decide +kernel
theorem qd_M_begin_39 : decode qb_M_begin 39 = .ok (.aload_n 0, 1) := by decide +kernel
theorem qd_M_begin_40 : decode qb_M_begin 40 = .ok (.getfield 99, 3) := by decide +kernel
theorem qd_M_begin_43 : decode qb_M_begin 43 = .ok (.iconst 0, 1) := by decide +kernel
theorem qd_M_begin_44 : decode qb_M_begin 44 = .ok (.iconst 0, 1) := by decide +kernel
theorem qd_M_begin_45 : decode qb_M_begin 45 = .ok (.iconst (-1), 1) := by decide +kernel
theorem qd_M_begin_46 : decode qb_M_begin 46 = .ok (.iconst (-1), 1) := by decide +kernel
theorem qd_M_begin_47 : decode qb_M_begin 47 = .ok (.iconst 1, 1) := by decide +kernel
theorem qd_M_begin_48 : decode qb_M_begin 48 = .ok (.invokevirtual 102, 3) := by decide +kernel
theorem qd_M_begin_51 : decode qb_M_begin 51 = .ok (.aload_n 0, 1) := by decide +kernel
theorem qd_M_begin_52 : decode qb_M_begin 52 = .ok (.aload_n 0, 1) := by decide +kernel
theorem qd_M_begin_53 : decode qb_M_begin 53 = .ok (.getfield 99, 3) := by decide +kernel
theorem qd_M_begin_56 : decode qb_M_begin 56 = .ok (.bipush 6, 2) := by decide +kernel
theorem qd_M_begin_58 : decode qb_M_begin 58 = .ok (.iconst (-1), 1) := by decide +kernel
theorem qd_M_begin_59 : decode qb_M_begin 59 = .ok (.iconst (-1), 1) := by decide +kernel
theorem qd_M_begin_60 : decode qb_M_begin 60 = .ok (.iconst (-1), 1) := by decide +kernel
theorem qd_M_begin_61 : decode qb_M_begin 61 = .ok (.iconst 1, 1) := by decide +kernel
theorem qd_M_begin_62 : decode qb_M_begin 62 = .ok (.invokevirtual 102, 3) := by decide +kernel
theorem qd_M_begin_65 : decode qb_M_begin 65 = .ok (.aload_n 0, 1) := by decide +kernel
theorem qd_M_begin_66 : decode qb_M_begin 66 = .ok (.aload_n 0, 1) := by decide +kernel
theorem qd_M_begin_67 : decode qb_M_begin 67 = .ok (.getfield 99, 3) := by decide +kernel
theorem qd_M_begin_70 : decode qb_M_begin 70 = .ok (.bipush 7, 2) := by decide +kernel
theorem qd_M_begin_72 : decode qb_M_begin 72 = .ok (.iconst (-1), 1) := by decide +kernel
theorem qd_M_begin_73 : decode qb_M_begin 73 = .ok (.iconst (-1), 1) := by decide +kernel
theorem qd_M_begin_74 : decode qb_M_begin 74 = .ok (.iconst (-1), 1) := by decide +kernel
theorem qd_M_begin_75 : decode qb_M_begin 75 = .ok (.iconst 1, 1) := by decide +kernel
theorem qd_M_begin_76 : decode qb_M_begin 76 = .ok (.invokevirtual 102, 3) := by decide +kernel
theorem qd_M_begin_79 : decode qb_M_begin 79 = .ok (.aload_n 0, 1) := by decide +kernel
theorem qd_M_begin_80 : decode qb_M_begin 80 = .ok (.invokevirtual 106, 3) := by decide +kernel
theorem qd_M_begin_83 : decode qb_M_begin 83 = .ok (.return_, 1) := by decide +kernel
theorem qd_M_put_0 : decode qb_M_put 0 = .ok (.aload_n 0, 1) := by decide +kernel
theorem qd_M_put_1 : decode qb_M_put 1 = .ok (.getfield 28, 3) := by decide +kernel
theorem qd_M_put_4 : decode qb_M_put 4 = .ok (.iload_n 1, 1) := by decide +kernel
theorem qd_M_put_5 : decode qb_M_put 5 = .ok (.iload_n 2, 1) := by decide +kernel
theorem qd_M_put_6 : decode qb_M_put 6 = .ok (.iastore, 1) := by decide +kernel
theorem qd_M_put_7 : decode qb_M_put 7 = .ok (.aload_n 0, 1) := by decide +kernel
theorem qd_M_put_8 : decode qb_M_put 8 = .ok (.getfield 31, 3) := by decide +kernel
theorem qd_M_put_11 : decode qb_M_put 11 = .ok (.iload_n 1, 1) := by decide +kernel
theorem qd_M_put_12 : decode qb_M_put 12 = .ok (.iload_n 3, 1) := by decide +kernel
theorem qd_M_put_13 : decode qb_M_put 13 = .ok (.iastore, 1) := by decide +kernel
theorem qd_M_put_14 : decode qb_M_put 14 = .ok (.aload_n 0, 1) := by decide +kernel
theorem qd_M_put_15 : decode qb_M_put 15 = .ok (.getfield 34, 3) := by decide +kernel
theorem qd_M_put_18 : decode qb_M_put 18 = .ok (.iload_n 1, 1) := by decide +kernel
theorem qd_M_put_19 : decode qb_M_put 19 = .ok (.iload 4, 2) := by decide +kernel
theorem qd_M_put_21 : decode qb_M_put 21 = .ok (.iastore, 1) := by decide +kernel
theorem qd_M_put_22 : decode qb_M_put 22 = .ok (.aload_n 0, 1) := by decide +kernel
theorem qd_M_put_23 : decode qb_M_put 23 = .ok (.getfield 37, 3) := by decide +kernel
theorem qd_M_put_26 : decode qb_M_put 26 = .ok (.iload_n 1, 1) := by decide +kernel
theorem qd_M_put_27 : decode qb_M_put 27 = .ok (.iload 5, 2) := by decide +kernel
theorem qd_M_put_29 : decode qb_M_put 29 = .ok (.iastore, 1) := by decide +kernel
theorem qd_M_put_30 : decode qb_M_put 30 = .ok (.aload_n 0, 1) := by decide +kernel
theorem qd_M_put_31 : decode qb_M_put 31 = .ok (.getfield 40, 3) := by decide +kernel
theorem qd_M_put_34 : decode qb_M_put 34 = .ok (.iload_n 1, 1) := by decide +kernel
theorem qd_M_put_35 : decode qb_M_put 35 = .ok (.iload 6, 2) := by decide +kernel
theorem qd_M_put_37 : decode qb_M_put 37 = .ok (.iastore, 1) := by decide +kernel
theorem qd_M_put_38 : decode qb_M_put 38 = .ok (.aload_n 0, 1) := by decide +kernel
theorem qd_M_put_39 : decode qb_M_put 39 = .ok (.dup, 1) := by decide +kernel
theorem qd_M_put_40 : decode qb_M_put 40 = .ok (.getfield 99, 3) := by decide +kernel
theorem qd_M_put_43 : decode qb_M_put 43 = .ok (.iload_n 1, 1) := by decide +kernel
theorem qd_M_put_44 : decode qb_M_put 44 = .ok (.sipush 150, 3) := by decide +kernel
theorem qd_M_put_47 : decode qb_M_put 47 = .ok (.if_icmp .ge 7, 3) := by decide +kernel
theorem qd_M_put_50 : decode qb_M_put 50 = .ok (.iconst 1, 1) := by decide +kernel
theorem qd_M_put_51 : decode qb_M_put 51 = .ok (.goto 4, 3) := by decide +kernel
theorem qd_M_put_54 : decode qb_M_put 54 = .ok (.iconst 0, 1) := by decide +kernel
theorem qd_M_put_55 : decode qb_M_put 55 = .ok (.iadd, 1) := by decide +kernel
theorem qd_M_put_56 : decode qb_M_put 56 = .ok (.putfield 99, 3) := by decide +kernel
theorem qd_M_put_59 : decode qb_M_put 59 = .ok (.return_, 1) := by decide +kernel
theorem qd_M_fresh_0 : decode qb_M_fresh 0 = .ok (.aload_n 0, 1) := by decide +kernel
theorem qd_M_fresh_1 : decode qb_M_fresh 1 = .ok (.sipush 150, 3) := by decide +kernel
theorem qd_M_fresh_4 : decode qb_M_fresh 4 = .ok (.putfield 109, 3) := by decide +kernel
theorem qd_M_fresh_7 : decode qb_M_fresh 7 = .ok (.aload_n 0, 1) := by decide +kernel
theorem qd_M_fresh_8 : decode qb_M_fresh 8 = .ok (.iconst 0, 1) := by decide +kernel
theorem qd_M_fresh_9 : decode qb_M_fresh 9 = .ok (.putfield 112, 3) := by decide +kernel
theorem qd_M_fresh_12 : decode qb_M_fresh 12 = .ok (.return_, 1) := by decide +kernel
theorem qd_M_clear_0 : decode qb_M_clear 0 = .ok (.aload_n 0, 1) := by decide +kernel
theorem qd_M_clear_1 : decode qb_M_clear 1 = .ok (.getfield 95, 3) := by decide +kernel
theorem qd_M_clear_4 : decode qb_M_clear 4 = .ok (.istore_n 1, 1) := by decide +kernel
theorem qd_M_clear_5 : decode qb_M_clear 5 = .ok (.aload_n 0, 1) := by decide +kernel
theorem qd_M_clear_6 : decode qb_M_clear 6 = .ok (.invokevirtual 92, 3) := by decide +kernel
theorem qd_M_clear_9 : decode qb_M_clear 9 = .ok (.iload_n 1, 1) := by decide +kernel
theorem qd_M_clear_10 : decode qb_M_clear 10 = .ok (.ireturn, 1) := by decide +kernel
theorem qd_M_declare_0 : decode qb_M_declare 0 = .ok (.iload_n 1, 1) := by decide +kernel
theorem qd_M_declare_1 : decode qb_M_declare 1 = .ok (.iconst 0, 1) := by decide +kernel
theorem qd_M_declare_2 : decode qb_M_declare 2 = .ok (.iconst 4, 1) := by decide +kernel
theorem qd_M_declare_3 : decode qb_M_declare 3 = .ok (.invokestatic 123, 3) := by decide +kernel
theorem qd_M_declare_6 : decode qb_M_declare 6 = .ok (.ifCond .eq 12, 3) := by decide +kernel
theorem qd_M_declare_9 : decode qb_M_declare 9 = .ok (.iload_n 2, 1) := by decide +kernel
theorem qd_M_declare_10 : decode qb_M_declare 10 = .ok (.iconst 0, 1) := by decide +kernel
theorem qd_M_declare_11 : decode qb_M_declare 11 = .ok (.iconst 2, 1) := by decide +kernel
theorem qd_M_declare_12 : decode qb_M_declare 12 = .ok (.invokestatic 123, 3) := by decide +kernel
theorem qd_M_declare_15 : decode qb_M_declare 15 = .ok (.ifCond .ne 6, 3) := by decide +kernel
theorem qd_M_declare_18 : decode qb_M_declare 18 = .ok (.bipush (-2), 2) := by decide +kernel
theorem qd_M_declare_20 : decode qb_M_declare 20 = .ok (.ireturn, 1) := by decide +kernel
theorem qd_M_declare_21 : decode qb_M_declare 21 = .ok (.aload_n 0, 1) := by decide +kernel
theorem qd_M_declare_22 : decode qb_M_declare 22 = .ok (.getfield 95, 3) := by decide +kernel
theorem qd_M_declare_25 : decode qb_M_declare 25 = .ok (.bipush 12, 2) := by decide +kernel
theorem qd_M_declare_27 : decode qb_M_declare 27 = .ok (.if_icmp .ne 6, 3) := by decide +kernel
theorem qd_M_declare_30 : decode qb_M_declare 30 = .ok (.bipush (-3), 2) := by decide +kernel
theorem qd_M_declare_32 : decode qb_M_declare 32 = .ok (.ireturn, 1) := by decide +kernel
theorem qd_M_declare_33 : decode qb_M_declare 33 = .ok (.aload_n 0, 1) := by decide +kernel
theorem qd_M_declare_34 : decode qb_M_declare 34 = .ok (.getfield 95, 3) := by decide +kernel
theorem qd_M_declare_37 : decode qb_M_declare 37 = .ok (.istore_n 3, 1) := by decide +kernel
theorem qd_M_declare_38 : decode qb_M_declare 38 = .ok (.aload_n 0, 1) := by decide +kernel
theorem qd_M_declare_39 : decode qb_M_declare 39 = .ok (.getfield 7, 3) := by decide +kernel
theorem qd_M_declare_42 : decode qb_M_declare 42 = .ok (.iload_n 3, 1) := by decide +kernel
theorem qd_M_declare_43 : decode qb_M_declare 43 = .ok (.iload_n 1, 1) := by decide +kernel
theorem qd_M_declare_44 : decode qb_M_declare 44 = .ok (.iastore, 1) := by decide +kernel
theorem qd_M_declare_45 : decode qb_M_declare 45 = .ok (.aload_n 0, 1) := by decide +kernel
theorem qd_M_declare_46 : decode qb_M_declare 46 = .ok (.getfield 13, 3) := by decide +kernel
theorem qd_M_declare_49 : decode qb_M_declare 49 = .ok (.iload_n 3, 1) := by decide +kernel
theorem qd_M_declare_50 : decode qb_M_declare 50 = .ok (.iload_n 2, 1) := by decide +kernel
theorem qd_M_declare_51 : decode qb_M_declare 51 = .ok (.iastore, 1) := by decide +kernel
theorem qd_M_declare_52 : decode qb_M_declare 52 = .ok (.aload_n 0, 1) := by decide +kernel
theorem qd_M_declare_53 : decode qb_M_declare 53 = .ok (.getfield 16, 3) := by decide +kernel
theorem qd_M_declare_56 : decode qb_M_declare 56 = .ok (.iconst 3, 1) := by decide +kernel
theorem qd_M_declare_57 : decode qb_M_declare 57 = .ok (.iload_n 3, 1) := by decide +kernel
theorem qd_M_declare_58 : decode qb_M_declare 58 = .ok (.imul, 1) := by decide +kernel
theorem qd_M_declare_59 : decode qb_M_declare 59 = .ok (.iconst (-1), 1) := by decide +kernel
theorem qd_M_declare_60 : decode qb_M_declare 60 = .ok (.iastore, 1) := by decide +kernel
theorem qd_M_declare_61 : decode qb_M_declare 61 = .ok (.aload_n 0, 1) := by decide +kernel
theorem qd_M_declare_62 : decode qb_M_declare 62 = .ok (.getfield 19, 3) := by decide +kernel
theorem qd_M_declare_65 : decode qb_M_declare 65 = .ok (.iload_n 3, 1) := by decide +kernel
theorem qd_M_declare_66 : decode qb_M_declare 66 = .ok (.iconst 0, 1) := by decide +kernel
theorem qd_M_declare_67 : decode qb_M_declare 67 = .ok (.iastore, 1) := by decide +kernel
theorem qd_M_declare_68 : decode qb_M_declare 68 = .ok (.aload_n 0, 1) := by decide +kernel
theorem qd_M_declare_69 : decode qb_M_declare 69 = .ok (.getfield 25, 3) := by decide +kernel
theorem qd_M_declare_72 : decode qb_M_declare 72 = .ok (.iconst 2, 1) := by decide +kernel
theorem qd_M_declare_73 : decode qb_M_declare 73 = .ok (.iload_n 3, 1) := by decide +kernel
theorem qd_M_declare_74 : decode qb_M_declare 74 = .ok (.imul, 1) := by decide +kernel
theorem qd_M_declare_75 : decode qb_M_declare 75 = .ok (.iconst 0, 1) := by decide +kernel
theorem qd_M_declare_76 : decode qb_M_declare 76 = .ok (.iastore, 1) := by decide +kernel
theorem qd_M_declare_77 : decode qb_M_declare 77 = .ok (.aload_n 0, 1) := by decide +kernel
theorem qd_M_declare_78 : decode qb_M_declare 78 = .ok (.getfield 25, 3) := by decide +kernel
theorem qd_M_declare_81 : decode qb_M_declare 81 = .ok (.iconst 2, 1) := by decide +kernel
theorem qd_M_declare_82 : decode qb_M_declare 82 = .ok (.iload_n 3, 1) := by decide +kernel
theorem qd_M_declare_83 : decode qb_M_declare 83 = .ok (.imul, 1) := by decide +kernel
theorem qd_M_declare_84 : decode qb_M_declare 84 = .ok (.iconst 1, 1) := by decide +kernel
theorem qd_M_declare_85 : decode qb_M_declare 85 = .ok (.iadd, 1) := by decide +kernel
theorem qd_M_declare_86 : decode qb_M_declare 86 = .ok (.iconst 0, 1) := by decide +kernel
theorem qd_M_declare_87 : decode qb_M_declare 87 = .ok (.iastore, 1) := by decide +kernel
theorem qd_M_declare_88 : decode qb_M_declare 88 = .ok (.aload_n 0, 1) := by decide +kernel
theorem qd_M_declare_89 : decode qb_M_declare 89 = .ok (.dup, 1) := by decide +kernel
theorem qd_M_declare_90 : decode qb_M_declare 90 = .ok (.getfield 95, 3) := by decide +kernel
theorem qd_M_declare_93 : decode qb_M_declare 93 = .ok (.iconst 1, 1) := by decide +kernel
theorem qd_M_declare_94 : decode qb_M_declare 94 = .ok (.iadd, 1) := by decide +kernel
theorem qd_M_declare_95 : decode qb_M_declare 95 = .ok (.putfield 95, 3) := by decide +kernel
theorem qd_M_declare_98 : decode qb_M_declare 98 = .ok (.iload_n 3, 1) := by decide +kernel
theorem qd_M_declare_99 : decode qb_M_declare 99 = .ok (.ireturn, 1) := by decide +kernel
theorem qd_M_isIn_0 : decode qb_M_isIn 0 = .ok (.iload_n 0, 1) := by decide +kernel
theorem qd_M_isIn_1 : decode qb_M_isIn 1 = .ok (.iload_n 1, 1) := by decide +kernel
theorem qd_M_isIn_2 : decode qb_M_isIn 2 = .ok (.if_icmp .lt 12, 3) := by decide +kernel
theorem qd_M_isIn_5 : decode qb_M_isIn 5 = .ok (.iload_n 0, 1) := by decide +kernel
theorem qd_M_isIn_6 : decode qb_M_isIn 6 = .ok (.iload_n 2, 1) := by decide +kernel
theorem qd_M_isIn_7 : decode qb_M_isIn 7 = .ok (.if_icmp .gt 7, 3) := by decide +kernel
theorem qd_M_isIn_10 : decode qb_M_isIn 10 = .ok (.iconst 1, 1) := by decide +kernel
theorem qd_M_isIn_11 : decode qb_M_isIn 11 = .ok (.goto 4, 3) := by decide +kernel
theorem qd_M_isIn_14 : decode qb_M_isIn 14 = .ok (.iconst 0, 1) := by decide +kernel
theorem qd_M_isIn_15 : decode qb_M_isIn 15 = .ok (.ireturn, 1) := by decide +kernel
theorem qd_M_plain_0 : decode qb_M_plain 0 = .ok (.aload_n 0, 1) := by decide +kernel
theorem qd_M_plain_1 : decode qb_M_plain 1 = .ok (.iload_n 1, 1) := by decide +kernel
theorem qd_M_plain_2 : decode qb_M_plain 2 = .ok (.invokevirtual 127, 3) := by decide +kernel
theorem qd_M_plain_5 : decode qb_M_plain 5 = .ok (.ifCond .ne 6, 3) := by decide +kernel
theorem qd_M_plain_8 : decode qb_M_plain 8 = .ok (.bipush (-2), 2) := by decide +kernel
theorem qd_M_plain_10 : decode qb_M_plain 10 = .ok (.ireturn, 1) := by decide +kernel
theorem qd_M_plain_11 : decode qb_M_plain 11 = .ok (.aload_n 0, 1) := by decide +kernel
theorem qd_M_plain_12 : decode qb_M_plain 12 = .ok (.aload_n 0, 1) := by decide +kernel
theorem qd_M_plain_13 : decode qb_M_plain 13 = .ok (.getfield 13, 3) := by decide +kernel
theorem qd_M_plain_16 : decode qb_M_plain 16 = .ok (.iload_n 1, 1) := by decide +kernel
theorem qd_M_plain_17 : decode qb_M_plain 17 = .ok (.iaload, 1) := by decide +kernel
theorem qd_M_plain_18 : decode qb_M_plain 18 = .ok (.ifCond .ne 7, 3) := by decide +kernel
theorem qd_M_plain_21 : decode qb_M_plain 21 = .ok (.iconst 0, 1) := by decide +kernel
theorem qd_M_plain_22 : decode qb_M_plain 22 = .ok (.goto 4, 3) := by decide +kernel
theorem qd_M_plain_25 : decode qb_M_plain 25 = .ok (.iconst 1, 1) := by decide +kernel
theorem qd_M_plain_26 : decode qb_M_plain 26 = .ok (.iload_n 1, 1) := by decide +kernel
theorem qd_M_plain_27 : decode qb_M_plain 27 = .ok (.iconst (-1), 1) := by decide +kernel
theorem qd_M_plain_28 : decode qb_M_plain 28 = .ok (.iconst (-1), 1) := by decide +kernel
theorem qd_M_plain_29 : decode qb_M_plain 29 = .ok (.iconst 1, 1) := by decide +kernel
theorem qd_M_plain_30 : decode qb_M_plain 30 = .ok (.invokevirtual 131, 3) := by decide +kernel
theorem qd_M_plain_33 : decode qb_M_plain 33 = .ok (.ireturn, 1) := by decide +kernel
theorem qd_M_isClass_0 : decode qb_M_isClass 0 = .ok (.iload_n 1, 1) := by decide +kernel
theorem qd_M_isClass_1 : decode qb_M_isClass 1 = .ok (.iconst 0, 1) := by decide +kernel
theorem qd_M_isClass_2 : decode qb_M_isClass 2 = .ok (.aload_n 0, 1) := by decide +kernel
theorem qd_M_isClass_3 : decode qb_M_isClass 3 = .ok (.getfield 95, 3) := by decide +kernel
theorem qd_M_isClass_6 : decode qb_M_isClass 6 = .ok (.iconst 1, 1) := by decide +kernel
theorem qd_M_isClass_7 : decode qb_M_isClass 7 = .ok (.isub, 1) := by decide +kernel
theorem qd_M_isClass_8 : decode qb_M_isClass 8 = .ok (.invokestatic 123, 3) := by decide +kernel
theorem qd_M_isClass_11 : decode qb_M_isClass 11 = .ok (.ireturn, 1) := by decide +kernel
theorem qd_M_enter_0 : decode qb_M_enter 0 = .ok (.aload_n 0, 1) := by decide +kernel
theorem qd_M_enter_1 : decode qb_M_enter 1 = .ok (.invokevirtual 106, 3) := by decide +kernel
theorem qd_M_enter_4 : decode qb_M_enter 4 = .ok (.aload_n 0, 1) := by decide +kernel
theorem qd_M_enter_5 : decode qb_M_enter 5 = .ok (.iload_n 1, 1) := by decide +kernel
theorem qd_M_enter_6 : decode qb_M_enter 6 = .ok (.iload_n 2, 1) := by decide +kernel
theorem qd_M_enter_7 : decode qb_M_enter 7 = .ok (.iload_n 3, 1) := by decide +kernel
theorem qd_M_enter_8 : decode qb_M_enter 8 = .ok (.iload 4, 2) := by decide +kernel
theorem qd_M_enter_10 : decode qb_M_enter 10 = .ok (.invokevirtual 119, 3) := by decide +kernel
theorem qd_M_enter_13 : decode qb_M_enter 13 = .ok (.istore 6, 2) := by decide +kernel
theorem qd_M_enter_15 : decode qb_M_enter 15 = .ok (.iload 6, 2) := by decide +kernel
theorem qd_M_enter_17 : decode qb_M_enter 17 = .ok (.iconst (-1), 1) := by decide +kernel
theorem qd_M_enter_18 : decode qb_M_enter 18 = .ok (.if_icmp .eq 6, 3) := by decide +kernel
theorem qd_M_enter_21 : decode qb_M_enter 21 = .ok (.iload 6, 2) := by decide +kernel
theorem qd_M_enter_23 : decode qb_M_enter 23 = .ok (.ireturn, 1) := by decide +kernel
theorem qd_M_enter_24 : decode qb_M_enter 24 = .ok (.aload_n 0, 1) := by decide +kernel
theorem qd_M_enter_25 : decode qb_M_enter 25 = .ok (.getfield 99, 3) := by decide +kernel
theorem qd_M_enter_28 : decode qb_M_enter 28 = .ok (.sipush 150, 3) := by decide +kernel
theorem qd_M_enter_31 : decode qb_M_enter 31 = .ok (.if_icmp .ne 6, 3) := by decide +kernel
theorem qd_M_enter_34 : decode qb_M_enter 34 = .ok (.bipush (-3), 2) := by decide +kernel
theorem qd_M_enter_36 : decode qb_M_enter 36 = .ok (.ireturn, 1) := by decide +kernel
theorem qd_M_enter_37 : decode qb_M_enter 37 = .ok (.iload 5, 2) := by decide +kernel
theorem qd_M_enter_39 : decode qb_M_enter 39 = .ok (.bipush 6, 2) := by decide +kernel
theorem qd_M_enter_41 : decode qb_M_enter 41 = .ok (.if_icmp .le 6, 3) := by decide +kernel
theorem qd_M_enter_44 : decode qb_M_enter 44 = .ok (.bipush (-4), 2) := by decide +kernel
theorem qd_M_enter_46 : decode qb_M_enter 46 = .ok (.ireturn, 1) := by decide +kernel
theorem qd_M_enter_47 : decode qb_M_enter 47 = .ok (.aload_n 0, 1) := by decide +kernel
theorem qd_M_enter_48 : decode qb_M_enter 48 = .ok (.aload_n 0, 1) := by decide +kernel
theorem qd_M_enter_49 : decode qb_M_enter 49 = .ok (.getfield 99, 3) := by decide +kernel
theorem qd_M_enter_52 : decode qb_M_enter 52 = .ok (.iload_n 1, 1) := by decide +kernel
theorem qd_M_enter_53 : decode qb_M_enter 53 = .ok (.iload_n 2, 1) := by decide +kernel
theorem qd_M_enter_54 : decode qb_M_enter 54 = .ok (.iload_n 3, 1) := by decide +kernel
theorem qd_M_enter_55 : decode qb_M_enter 55 = .ok (.iload 4, 2) := by decide +kernel
theorem qd_M_enter_57 : decode qb_M_enter 57 = .ok (.iload 5, 2) := by decide +kernel
theorem qd_M_enter_59 : decode qb_M_enter 59 = .ok (.invokevirtual 102, 3) := by decide +kernel
theorem qd_M_enter_62 : decode qb_M_enter 62 = .ok (.aload_n 0, 1) := by decide +kernel
theorem qd_M_enter_63 : decode qb_M_enter 63 = .ok (.getfield 99, 3) := by decide +kernel
theorem qd_M_enter_66 : decode qb_M_enter 66 = .ok (.iconst 1, 1) := by decide +kernel
theorem qd_M_enter_67 : decode qb_M_enter 67 = .ok (.isub, 1) := by decide +kernel
theorem qd_M_enter_68 : decode qb_M_enter 68 = .ok (.ireturn, 1) := by decide +kernel
theorem qd_M_find_0 : decode qb_M_find 0 = .ok (.iconst 0, 1) := by decide +kernel
theorem qd_M_find_1 : decode qb_M_find 1 = .ok (.istore 5, 2) := by decide +kernel
theorem qd_M_find_3 : decode qb_M_find 3 = .ok (.iload 5, 2) := by decide +kernel
theorem qd_M_find_5 : decode qb_M_find 5 = .ok (.aload_n 0, 1) := by decide +kernel
theorem qd_M_find_6 : decode qb_M_find 6 = .ok (.getfield 99, 3) := by decide +kernel
theorem qd_M_find_9 : decode qb_M_find 9 = .ok (.if_icmp .ge 26, 3) := by decide +kernel
theorem qd_M_find_12 : decode qb_M_find 12 = .ok (.aload_n 0, 1) := by decide +kernel
theorem qd_M_find_13 : decode qb_M_find 13 = .ok (.iload 5, 2) := by decide +kernel
theorem qd_M_find_15 : decode qb_M_find 15 = .ok (.iload_n 1, 1) := by decide +kernel
theorem qd_M_find_16 : decode qb_M_find 16 = .ok (.iload_n 2, 1) := by decide +kernel
theorem qd_M_find_17 : decode qb_M_find 17 = .ok (.iload_n 3, 1) := by decide +kernel
theorem qd_M_find_18 : decode qb_M_find 18 = .ok (.iload 4, 2) := by decide +kernel
theorem qd_M_find_20 : decode qb_M_find 20 = .ok (.invokevirtual 115, 3) := by decide +kernel
theorem qd_M_find_23 : decode qb_M_find 23 = .ok (.ifCond .eq 6, 3) := by decide +kernel
theorem qd_M_find_26 : decode qb_M_find 26 = .ok (.iload 5, 2) := by decide +kernel
theorem qd_M_find_28 : decode qb_M_find 28 = .ok (.ireturn, 1) := by decide +kernel
theorem qd_M_find_29 : decode qb_M_find 29 = .ok (.iinc 5 1, 3) := by decide +kernel
theorem qd_M_find_32 : decode qb_M_find 32 = .ok (.goto (-29), 3) := by decide +kernel
theorem qd_M_find_35 : decode qb_M_find 35 = .ok (.sipush 150, 3) := by decide +kernel
theorem qd_M_find_38 : decode qb_M_find 38 = .ok (.istore 5, 2) := by decide +kernel
theorem qd_M_find_40 : decode qb_M_find 40 = .ok (.iload 5, 2) := by decide +kernel
theorem qd_M_find_42 : decode qb_M_find 42 = .ok (.aload_n 0, 1) := by decide +kernel
theorem qd_M_find_43 : decode qb_M_find 43 = .ok (.getfield 109, 3) := by decide +kernel
theorem qd_M_find_46 : decode qb_M_find 46 = .ok (.if_icmp .ge 26, 3) := by decide +kernel
theorem qd_M_find_49 : decode qb_M_find 49 = .ok (.aload_n 0, 1) := by decide +kernel
theorem qd_M_find_50 : decode qb_M_find 50 = .ok (.iload 5, 2) := by decide +kernel
theorem qd_M_find_52 : decode qb_M_find 52 = .ok (.iload_n 1, 1) := by decide +kernel
theorem qd_M_find_53 : decode qb_M_find 53 = .ok (.iload_n 2, 1) := by decide +kernel
theorem qd_M_find_54 : decode qb_M_find 54 = .ok (.iload_n 3, 1) := by decide +kernel
theorem qd_M_find_55 : decode qb_M_find 55 = .ok (.iload 4, 2) := by decide +kernel
theorem qd_M_find_57 : decode qb_M_find 57 = .ok (.invokevirtual 115, 3) := by decide +kernel
theorem qd_M_find_60 : decode qb_M_find 60 = .ok (.ifCond .eq 6, 3) := by decide +kernel
theorem qd_M_find_63 : decode qb_M_find 63 = .ok (.iload 5, 2) := by decide +kernel
theorem qd_M_find_65 : decode qb_M_find 65 = .ok (.ireturn, 1) := by decide +kernel
theorem qd_M_find_66 : decode qb_M_find 66 = .ok (.iinc 5 1, 3) := by decide +kernel
theorem qd_M_find_69 : decode qb_M_find 69 = .ok (.goto (-29), 3) := by decide +kernel
theorem qd_M_find_72 : decode qb_M_find 72 = .ok (.iconst (-1), 1) := by decide +kernel
theorem qd_M_find_73 : decode qb_M_find 73 = .ok (.ireturn, 1) := by decide +kernel
theorem qd_M_isLike_0 : decode qb_M_isLike 0 = .ok (.aload_n 0, 1) := by decide +kernel
theorem qd_M_isLike_1 : decode qb_M_isLike 1 = .ok (.getfield 28, 3) := by decide +kernel
theorem qd_M_isLike_4 : decode qb_M_isLike 4 = .ok (.iload_n 1, 1) := by decide +kernel
theorem qd_M_isLike_5 : decode qb_M_isLike 5 = .ok (.iaload, 1) := by decide +kernel
theorem qd_M_isLike_6 : decode qb_M_isLike 6 = .ok (.iload_n 2, 1) := by decide +kernel
theorem qd_M_isLike_7 : decode qb_M_isLike 7 = .ok (.if_icmp .ne 39, 3) := by decide +kernel
theorem qd_M_isLike_10 : decode qb_M_isLike 10 = .ok (.aload_n 0, 1) := by decide +kernel
theorem qd_M_isLike_11 : decode qb_M_isLike 11 = .ok (.getfield 31, 3) := by decide +kernel
theorem qd_M_isLike_14 : decode qb_M_isLike 14 = .ok (.iload_n 1, 1) := by decide +kernel
theorem qd_M_isLike_15 : decode qb_M_isLike 15 = .ok (.iaload, 1) := by decide +kernel
theorem qd_M_isLike_16 : decode qb_M_isLike 16 = .ok (.iload_n 3, 1) := by decide +kernel
theorem qd_M_isLike_17 : decode qb_M_isLike 17 = .ok (.if_icmp .ne 29, 3) := by decide +kernel
theorem qd_M_isLike_20 : decode qb_M_isLike 20 = .ok (.aload_n 0, 1) := by decide +kernel
theorem qd_M_isLike_21 : decode qb_M_isLike 21 = .ok (.getfield 34, 3) := by decide +kernel
theorem qd_M_isLike_24 : decode qb_M_isLike 24 = .ok (.iload_n 1, 1) := by decide +kernel
theorem qd_M_isLike_25 : decode qb_M_isLike 25 = .ok (.iaload, 1) := by decide +kernel
theorem qd_M_isLike_26 : decode qb_M_isLike 26 = .ok (.iload 4, 2) := by decide +kernel
theorem qd_M_isLike_28 : decode qb_M_isLike 28 = .ok (.if_icmp .ne 18, 3) := by decide +kernel
theorem qd_M_isLike_31 : decode qb_M_isLike 31 = .ok (.aload_n 0, 1) := by decide +kernel
theorem qd_M_isLike_32 : decode qb_M_isLike 32 = .ok (.getfield 37, 3) := by decide +kernel
theorem qd_M_isLike_35 : decode qb_M_isLike 35 = .ok (.iload_n 1, 1) := by decide +kernel
theorem qd_M_isLike_36 : decode qb_M_isLike 36 = .ok (.iaload, 1) := by decide +kernel
theorem qd_M_isLike_37 : decode qb_M_isLike 37 = .ok (.iload 5, 2) := by decide +kernel
theorem qd_M_isLike_39 : decode qb_M_isLike 39 = .ok (.if_icmp .ne 7, 3) := by decide +kernel
theorem qd_M_isLike_42 : decode qb_M_isLike 42 = .ok (.iconst 1, 1) := by decide +kernel
theorem qd_M_isLike_43 : decode qb_M_isLike 43 = .ok (.goto 4, 3) := by decide +kernel
theorem qd_M_isLike_46 : decode qb_M_isLike 46 = .ok (.iconst 0, 1) := by decide +kernel
theorem qd_M_isLike_47 : decode qb_M_isLike 47 = .ok (.ireturn, 1) := by decide +kernel
theorem qd_M_of_0 : decode qb_M_of 0 = .ok (.aload_n 0, 1) := by decide +kernel
theorem qd_M_of_1 : decode qb_M_of 1 = .ok (.iload_n 1, 1) := by decide +kernel
theorem qd_M_of_2 : decode qb_M_of 2 = .ok (.invokevirtual 127, 3) := by decide +kernel
theorem qd_M_of_5 : decode qb_M_of 5 = .ok (.ifCond .eq 38, 3) := by decide +kernel
theorem qd_M_of_8 : decode qb_M_of 8 = .ok (.aload_n 0, 1) := by decide +kernel
theorem qd_M_of_9 : decode qb_M_of 9 = .ok (.getfield 13, 3) := by decide +kernel
theorem qd_M_of_12 : decode qb_M_of 12 = .ok (.iload_n 1, 1) := by decide +kernel
theorem qd_M_of_13 : decode qb_M_of 13 = .ok (.iaload, 1) := by decide +kernel
theorem qd_M_of_14 : decode qb_M_of 14 = .ok (.ifCond .eq 29, 3) := by decide +kernel
theorem qd_M_of_17 : decode qb_M_of 17 = .ok (.aload_n 0, 1) := by decide +kernel
theorem qd_M_of_18 : decode qb_M_of 18 = .ok (.iload_n 2, 1) := by decide +kernel
theorem qd_M_of_19 : decode qb_M_of 19 = .ok (.invokevirtual 138, 3) := by decide +kernel
theorem qd_M_of_22 : decode qb_M_of 22 = .ok (.ifCond .eq 21, 3) := by decide +kernel
theorem qd_M_of_25 : decode qb_M_of 25 = .ok (.aload_n 0, 1) := by decide +kernel
theorem qd_M_of_26 : decode qb_M_of 26 = .ok (.getfield 13, 3) := by decide +kernel
theorem qd_M_of_29 : decode qb_M_of 29 = .ok (.iload_n 1, 1) := by decide +kernel
theorem qd_M_of_30 : decode qb_M_of 30 = .ok (.iaload, 1) := by decide +kernel
theorem qd_M_of_31 : decode qb_M_of 31 = .ok (.iconst 2, 1) := by decide +kernel
theorem qd_M_of_32 : decode qb_M_of 32 = .ok (.if_icmp .ne 14, 3) := by decide +kernel
theorem qd_M_of_35 : decode qb_M_of 35 = .ok (.aload_n 0, 1) := by decide +kernel
theorem qd_M_of_36 : decode qb_M_of 36 = .ok (.iload_n 3, 1) := by decide +kernel
theorem qd_M_of_37 : decode qb_M_of 37 = .ok (.invokevirtual 138, 3) := by decide +kernel
theorem qd_M_of_40 : decode qb_M_of 40 = .ok (.ifCond .ne 6, 3) := by decide +kernel
theorem qd_M_of_43 : decode qb_M_of 43 = .ok (.bipush (-2), 2) := by decide +kernel
theorem qd_M_of_45 : decode qb_M_of 45 = .ok (.ireturn, 1) := by decide +kernel
theorem qd_M_of_46 : decode qb_M_of 46 = .ok (.aload_n 0, 1) := by decide +kernel
theorem qd_M_of_47 : decode qb_M_of 47 = .ok (.getfield 13, 3) := by decide +kernel
theorem qd_M_of_50 : decode qb_M_of 50 = .ok (.iload_n 1, 1) := by decide +kernel
theorem qd_M_of_51 : decode qb_M_of 51 = .ok (.iaload, 1) := by decide +kernel
theorem qd_M_of_52 : decode qb_M_of 52 = .ok (.iconst 2, 1) := by decide +kernel
theorem qd_M_of_53 : decode qb_M_of 53 = .ok (.if_icmp .ne 7, 3) := by decide +kernel
theorem qd_M_of_56 : decode qb_M_of 56 = .ok (.iload_n 3, 1) := by decide +kernel
theorem qd_M_of_57 : decode qb_M_of 57 = .ok (.goto 4, 3) := by decide +kernel
theorem qd_M_of_60 : decode qb_M_of 60 = .ok (.iconst (-1), 1) := by decide +kernel
theorem qd_M_of_61 : decode qb_M_of 61 = .ok (.istore 4, 2) := by decide +kernel
theorem qd_M_of_63 : decode qb_M_of 63 = .ok (.aload_n 0, 1) := by decide +kernel
theorem qd_M_of_64 : decode qb_M_of 64 = .ok (.getfield 40, 3) := by decide +kernel
theorem qd_M_of_67 : decode qb_M_of 67 = .ok (.iload_n 2, 1) := by decide +kernel
theorem qd_M_of_68 : decode qb_M_of 68 = .ok (.iaload, 1) := by decide +kernel
theorem qd_M_of_69 : decode qb_M_of 69 = .ok (.istore 5, 2) := by decide +kernel
theorem qd_M_of_71 : decode qb_M_of 71 = .ok (.iload 4, 2) := by decide +kernel
theorem qd_M_of_73 : decode qb_M_of 73 = .ok (.iconst (-1), 1) := by decide +kernel
theorem qd_M_of_74 : decode qb_M_of 74 = .ok (.if_icmp .eq 25, 3) := by decide +kernel
theorem qd_M_of_77 : decode qb_M_of 77 = .ok (.aload_n 0, 1) := by decide +kernel
theorem qd_M_of_78 : decode qb_M_of 78 = .ok (.getfield 40, 3) := by decide +kernel
theorem qd_M_of_81 : decode qb_M_of 81 = .ok (.iload 4, 2) := by decide +kernel
theorem qd_M_of_83 : decode qb_M_of 83 = .ok (.iaload, 1) := by decide +kernel
theorem qd_M_of_84 : decode qb_M_of 84 = .ok (.iload 5, 2) := by decide +kernel
theorem qd_M_of_86 : decode qb_M_of 86 = .ok (.if_icmp .le 13, 3) := by decide +kernel
theorem qd_M_of_89 : decode qb_M_of 89 = .ok (.aload_n 0, 1) := by decide +kernel
theorem qd_M_of_90 : decode qb_M_of 90 = .ok (.getfield 40, 3) := by decide +kernel
theorem qd_M_of_93 : decode qb_M_of 93 = .ok (.iload 4, 2) := by decide +kernel
theorem qd_M_of_95 : decode qb_M_of 95 = .ok (.iaload, 1) := by decide +kernel
theorem qd_M_of_96 : decode qb_M_of 96 = .ok (.goto 5, 3) := by decide +kernel
theorem qd_M_of_99 : decode qb_M_of 99 = .ok (.iload 5, 2) := by decide +kernel
theorem qd_M_of_101 : decode qb_M_of 101 = .ok (.istore 5, 2) := by decide +kernel
theorem qd_M_of_103 : decode qb_M_of 103 = .ok (.aload_n 0, 1) := by decide +kernel
theorem qd_M_of_104 : decode qb_M_of 104 = .ok (.iconst 2, 1) := by decide +kernel
theorem qd_M_of_105 : decode qb_M_of 105 = .ok (.iload_n 1, 1) := by decide +kernel
theorem qd_M_of_106 : decode qb_M_of 106 = .ok (.iload_n 2, 1) := by decide +kernel
theorem qd_M_of_107 : decode qb_M_of 107 = .ok (.iload 4, 2) := by decide +kernel
theorem qd_M_of_109 : decode qb_M_of 109 = .ok (.iload 5, 2) := by decide +kernel
theorem qd_M_of_111 : decode qb_M_of 111 = .ok (.iconst 1, 1) := by decide +kernel
theorem qd_M_of_112 : decode qb_M_of 112 = .ok (.iadd, 1) := by decide +kernel
theorem qd_M_of_113 : decode qb_M_of 113 = .ok (.invokevirtual 131, 3) := by decide +kernel
theorem qd_M_of_116 : decode qb_M_of 116 = .ok (.ireturn, 1) := by decide +kernel
theorem qd_M_isArgument_0 : decode qb_M_isArgument 0 = .ok (.aload_n 0, 1) := by decide +kernel
theorem qd_M_isArgument_1 : decode qb_M_isArgument 1 = .ok (.iload_n 1, 1) := by decide +kernel
theorem qd_M_isArgument_2 : decode qb_M_isArgument 2 = .ok (.invokevirtual 135, 3) := by decide +kernel
theorem qd_M_isArgument_5 : decode qb_M_isArgument 5 = .ok (.ifCond .eq 17, 3) := by decide +kernel
theorem qd_M_isArgument_8 : decode qb_M_isArgument 8 = .ok (.iload_n 1, 1) := by decide +kernel
theorem qd_M_isArgument_9 : decode qb_M_isArgument 9 = .ok (.iconst 1, 1) := by decide +kernel
theorem qd_M_isArgument_10 : decode qb_M_isArgument 10 = .ok (.if_icmp .eq 12, 3) := by decide +kernel
theorem qd_M_isArgument_13 : decode qb_M_isArgument 13 = .ok (.iload_n 1, 1) := by decide +kernel
theorem qd_M_isArgument_14 : decode qb_M_isArgument 14 = .ok (.iconst 2, 1) := by decide +kernel
theorem qd_M_isArgument_15 : decode qb_M_isArgument 15 = .ok (.if_icmp .eq 7, 3) := by decide +kernel
theorem qd_M_isArgument_18 : decode qb_M_isArgument 18 = .ok (.iconst 1, 1) := by decide +kernel
theorem qd_M_isArgument_19 : decode qb_M_isArgument 19 = .ok (.goto 4, 3) := by decide +kernel
theorem qd_M_isArgument_22 : decode qb_M_isArgument 22 = .ok (.iconst 0, 1) := by decide +kernel
theorem qd_M_isArgument_23 : decode qb_M_isArgument 23 = .ok (.ireturn, 1) := by decide +kernel
theorem qd_M_isType_0 : decode qb_M_isType 0 = .ok (.iload_n 1, 1) := by decide +kernel
theorem qd_M_isType_1 : decode qb_M_isType 1 = .ok (.iconst 0, 1) := by decide +kernel
theorem qd_M_isType_2 : decode qb_M_isType 2 = .ok (.aload_n 0, 1) := by decide +kernel
theorem qd_M_isType_3 : decode qb_M_isType 3 = .ok (.getfield 99, 3) := by decide +kernel
theorem qd_M_isType_6 : decode qb_M_isType 6 = .ok (.iconst 1, 1) := by decide +kernel
theorem qd_M_isType_7 : decode qb_M_isType 7 = .ok (.isub, 1) := by decide +kernel
theorem qd_M_isType_8 : decode qb_M_isType 8 = .ok (.invokestatic 123, 3) := by decide +kernel
theorem qd_M_isType_11 : decode qb_M_isType 11 = .ok (.ireturn, 1) := by decide +kernel
theorem qd_M_wild_0 : decode qb_M_wild 0 = .ok (.iload_n 1, 1) := by decide +kernel
theorem qd_M_wild_1 : decode qb_M_wild 1 = .ok (.iconst 0, 1) := by decide +kernel
theorem qd_M_wild_2 : decode qb_M_wild 2 = .ok (.iconst 2, 1) := by decide +kernel
theorem qd_M_wild_3 : decode qb_M_wild 3 = .ok (.invokestatic 123, 3) := by decide +kernel
theorem qd_M_wild_6 : decode qb_M_wild 6 = .ok (.ifCond .eq 25, 3) := by decide +kernel
theorem qd_M_wild_9 : decode qb_M_wild 9 = .ok (.iload_n 1, 1) := by decide +kernel
theorem qd_M_wild_10 : decode qb_M_wild 10 = .ok (.ifCond .le 24, 3) := by decide +kernel
theorem qd_M_wild_13 : decode qb_M_wild 13 = .ok (.aload_n 0, 1) := by decide +kernel
theorem qd_M_wild_14 : decode qb_M_wild 14 = .ok (.iload_n 2, 1) := by decide +kernel
theorem qd_M_wild_15 : decode qb_M_wild 15 = .ok (.invokevirtual 138, 3) := by decide +kernel
theorem qd_M_wild_18 : decode qb_M_wild 18 = .ok (.ifCond .eq 13, 3) := by decide +kernel
theorem qd_M_wild_21 : decode qb_M_wild 21 = .ok (.aload_n 0, 1) := by decide +kernel
theorem qd_M_wild_22 : decode qb_M_wild 22 = .ok (.getfield 28, 3) := by decide +kernel
theorem qd_M_wild_25 : decode qb_M_wild 25 = .ok (.iload_n 2, 1) := by decide +kernel
theorem qd_M_wild_26 : decode qb_M_wild 26 = .ok (.iaload, 1) := by decide +kernel
theorem qd_M_wild_27 : decode qb_M_wild 27 = .ok (.iconst 5, 1) := by decide +kernel
theorem qd_M_wild_28 : decode qb_M_wild 28 = .ok (.if_icmp .ne 6, 3) := by decide +kernel
theorem qd_M_wild_31 : decode qb_M_wild 31 = .ok (.bipush (-2), 2) := by decide +kernel
theorem qd_M_wild_33 : decode qb_M_wild 33 = .ok (.ireturn, 1) := by decide +kernel
theorem qd_M_wild_34 : decode qb_M_wild 34 = .ok (.iload_n 1, 1) := by decide +kernel
theorem qd_M_wild_35 : decode qb_M_wild 35 = .ok (.ifCond .ne 15, 3) := by decide +kernel
theorem qd_M_wild_38 : decode qb_M_wild 38 = .ok (.aload_n 0, 1) := by decide +kernel
theorem qd_M_wild_39 : decode qb_M_wild 39 = .ok (.iconst 5, 1) := by decide +kernel
theorem qd_M_wild_40 : decode qb_M_wild 40 = .ok (.iconst 0, 1) := by decide +kernel
theorem qd_M_wild_41 : decode qb_M_wild 41 = .ok (.iconst (-1), 1) := by decide +kernel
theorem qd_M_wild_42 : decode qb_M_wild 42 = .ok (.iconst (-1), 1) := by decide +kernel
theorem qd_M_wild_43 : decode qb_M_wild 43 = .ok (.iconst 1, 1) := by decide +kernel
theorem qd_M_wild_44 : decode qb_M_wild 44 = .ok (.invokevirtual 131, 3) := by decide +kernel
theorem qd_M_wild_47 : decode qb_M_wild 47 = .ok (.goto 19, 3) := by decide +kernel
theorem qd_M_wild_50 : decode qb_M_wild 50 = .ok (.aload_n 0, 1) := by decide +kernel
theorem qd_M_wild_51 : decode qb_M_wild 51 = .ok (.iconst 5, 1) := by decide +kernel
theorem qd_M_wild_52 : decode qb_M_wild 52 = .ok (.iload_n 1, 1) := by decide +kernel
theorem qd_M_wild_53 : decode qb_M_wild 53 = .ok (.iload_n 2, 1) := by decide +kernel
theorem qd_M_wild_54 : decode qb_M_wild 54 = .ok (.iconst (-1), 1) := by decide +kernel
theorem qd_M_wild_55 : decode qb_M_wild 55 = .ok (.aload_n 0, 1) := by decide +kernel
theorem qd_M_wild_56 : decode qb_M_wild 56 = .ok (.getfield 40, 3) := by decide +kernel
theorem qd_M_wild_59 : decode qb_M_wild 59 = .ok (.iload_n 2, 1) := by decide +kernel
theorem qd_M_wild_60 : decode qb_M_wild 60 = .ok (.iaload, 1) := by decide +kernel
theorem qd_M_wild_61 : decode qb_M_wild 61 = .ok (.iconst 1, 1) := by decide +kernel
theorem qd_M_wild_62 : decode qb_M_wild 62 = .ok (.iadd, 1) := by decide +kernel
theorem qd_M_wild_63 : decode qb_M_wild 63 = .ok (.invokevirtual 131, 3) := by decide +kernel
theorem qd_M_wild_66 : decode qb_M_wild 66 = .ok (.ireturn, 1) := by decide +kernel
theorem qd_M_variable_0 : decode qb_M_variable 0 = .ok (.aload_n 0, 1) := by decide +kernel
theorem qd_M_variable_1 : decode qb_M_variable 1 = .ok (.iload_n 1, 1) := by decide +kernel
theorem qd_M_variable_2 : decode qb_M_variable 2 = .ok (.invokevirtual 127, 3) := by decide +kernel
theorem qd_M_variable_5 : decode qb_M_variable 5 = .ok (.ifCond .eq 19, 3) := by decide +kernel
theorem qd_M_variable_8 : decode qb_M_variable 8 = .ok (.iload_n 2, 1) := by decide +kernel
theorem qd_M_variable_9 : decode qb_M_variable 9 = .ok (.iconst 0, 1) := by decide +kernel
theorem qd_M_variable_10 : decode qb_M_variable 10 = .ok (.aload_n 0, 1) := by decide +kernel
theorem qd_M_variable_11 : decode qb_M_variable 11 = .ok (.getfield 13, 3) := by decide +kernel
theorem qd_M_variable_14 : decode qb_M_variable 14 = .ok (.iload_n 1, 1) := by decide +kernel
theorem qd_M_variable_15 : decode qb_M_variable 15 = .ok (.iaload, 1) := by decide +kernel
theorem qd_M_variable_16 : decode qb_M_variable 16 = .ok (.iconst 1, 1) := by decide +kernel
theorem qd_M_variable_17 : decode qb_M_variable 17 = .ok (.isub, 1) := by decide +kernel
theorem qd_M_variable_18 : decode qb_M_variable 18 = .ok (.invokestatic 123, 3) := by decide +kernel
theorem qd_M_variable_21 : decode qb_M_variable 21 = .ok (.ifCond .ne 6, 3) := by decide +kernel
theorem qd_M_variable_24 : decode qb_M_variable 24 = .ok (.bipush (-2), 2) := by decide +kernel
theorem qd_M_variable_26 : decode qb_M_variable 26 = .ok (.ireturn, 1) := by decide +kernel
theorem qd_M_variable_27 : decode qb_M_variable 27 = .ok (.aload_n 0, 1) := by decide +kernel
theorem qd_M_variable_28 : decode qb_M_variable 28 = .ok (.iconst 3, 1) := by decide +kernel
theorem qd_M_variable_29 : decode qb_M_variable 29 = .ok (.iload_n 1, 1) := by decide +kernel
theorem qd_M_variable_30 : decode qb_M_variable 30 = .ok (.iload_n 2, 1) := by decide +kernel
theorem qd_M_variable_31 : decode qb_M_variable 31 = .ok (.iconst (-1), 1) := by decide +kernel
theorem qd_M_variable_32 : decode qb_M_variable 32 = .ok (.iconst 1, 1) := by decide +kernel
theorem qd_M_variable_33 : decode qb_M_variable 33 = .ok (.invokevirtual 131, 3) := by decide +kernel
theorem qd_M_variable_36 : decode qb_M_variable 36 = .ok (.ireturn, 1) := by decide +kernel
theorem qd_M_row_0 : decode qb_M_row 0 = .ok (.aload_n 0, 1) := by decide +kernel
theorem qd_M_row_1 : decode qb_M_row 1 = .ok (.iload_n 1, 1) := by decide +kernel
theorem qd_M_row_2 : decode qb_M_row 2 = .ok (.invokevirtual 135, 3) := by decide +kernel
theorem qd_M_row_5 : decode qb_M_row 5 = .ok (.ifCond .eq 18, 3) := by decide +kernel
theorem qd_M_row_8 : decode qb_M_row 8 = .ok (.iload_n 1, 1) := by decide +kernel
theorem qd_M_row_9 : decode qb_M_row 9 = .ok (.iconst 2, 1) := by decide +kernel
theorem qd_M_row_10 : decode qb_M_row 10 = .ok (.if_icmp .eq 13, 3) := by decide +kernel
theorem qd_M_row_13 : decode qb_M_row 13 = .ok (.aload_n 0, 1) := by decide +kernel
theorem qd_M_row_14 : decode qb_M_row 14 = .ok (.getfield 28, 3) := by decide +kernel
theorem qd_M_row_17 : decode qb_M_row 17 = .ok (.iload_n 1, 1) := by decide +kernel
theorem qd_M_row_18 : decode qb_M_row 18 = .ok (.iaload, 1) := by decide +kernel
theorem qd_M_row_19 : decode qb_M_row 19 = .ok (.iconst 5, 1) := by decide +kernel
theorem qd_M_row_20 : decode qb_M_row 20 = .ok (.if_icmp .ne 6, 3) := by decide +kernel
theorem qd_M_row_23 : decode qb_M_row 23 = .ok (.bipush (-2), 2) := by decide +kernel
theorem qd_M_row_25 : decode qb_M_row 25 = .ok (.ireturn, 1) := by decide +kernel
theorem qd_M_row_26 : decode qb_M_row 26 = .ok (.aload_n 0, 1) := by decide +kernel
theorem qd_M_row_27 : decode qb_M_row 27 = .ok (.iconst 4, 1) := by decide +kernel
theorem qd_M_row_28 : decode qb_M_row 28 = .ok (.iconst (-1), 1) := by decide +kernel
theorem qd_M_row_29 : decode qb_M_row 29 = .ok (.iload_n 1, 1) := by decide +kernel
theorem qd_M_row_30 : decode qb_M_row 30 = .ok (.iconst (-1), 1) := by decide +kernel
theorem qd_M_row_31 : decode qb_M_row 31 = .ok (.aload_n 0, 1) := by decide +kernel
theorem qd_M_row_32 : decode qb_M_row 32 = .ok (.getfield 40, 3) := by decide +kernel
theorem qd_M_row_35 : decode qb_M_row 35 = .ok (.iload_n 1, 1) := by decide +kernel
theorem qd_M_row_36 : decode qb_M_row 36 = .ok (.iaload, 1) := by decide +kernel
theorem qd_M_row_37 : decode qb_M_row 37 = .ok (.iconst 1, 1) := by decide +kernel
theorem qd_M_row_38 : decode qb_M_row 38 = .ok (.iadd, 1) := by decide +kernel
theorem qd_M_row_39 : decode qb_M_row 39 = .ok (.invokevirtual 131, 3) := by decide +kernel
theorem qd_M_row_42 : decode qb_M_row 42 = .ok (.ireturn, 1) := by decide +kernel
theorem qd_M_count_0 : decode qb_M_count 0 = .ok (.iload_n 1, 1) := by decide +kernel
theorem qd_M_count_1 : decode qb_M_count 1 = .ok (.ifCond .ne 10, 3) := by decide +kernel
theorem qd_M_count_4 : decode qb_M_count 4 = .ok (.aload_n 0, 1) := by decide +kernel
theorem qd_M_count_5 : decode qb_M_count 5 = .ok (.getfield 95, 3) := by decide +kernel
theorem qd_M_count_8 : decode qb_M_count 8 = .ok (.goto 17, 3) := by decide +kernel
theorem qd_M_count_11 : decode qb_M_count 11 = .ok (.iload_n 1, 1) := by decide +kernel
theorem qd_M_count_12 : decode qb_M_count 12 = .ok (.iconst 1, 1) := by decide +kernel
theorem qd_M_count_13 : decode qb_M_count 13 = .ok (.if_icmp .ne 10, 3) := by decide +kernel
theorem qd_M_count_16 : decode qb_M_count 16 = .ok (.aload_n 0, 1) := by decide +kernel
theorem qd_M_count_17 : decode qb_M_count 17 = .ok (.getfield 99, 3) := by decide +kernel
theorem qd_M_count_20 : decode qb_M_count 20 = .ok (.goto 5, 3) := by decide +kernel
theorem qd_M_count_23 : decode qb_M_count 23 = .ok (.bipush (-2), 2) := by decide +kernel
theorem qd_M_count_25 : decode qb_M_count 25 = .ok (.ireturn, 1) := by decide +kernel
theorem qd_M_told_0 : decode qb_M_told 0 = .ok (.aload_n 0, 1) := by decide +kernel
theorem qd_M_told_1 : decode qb_M_told 1 = .ok (.iload_n 1, 1) := by decide +kernel
theorem qd_M_told_2 : decode qb_M_told 2 = .ok (.invokevirtual 135, 3) := by decide +kernel
theorem qd_M_told_5 : decode qb_M_told 5 = .ok (.ifCond .eq 12, 3) := by decide +kernel
theorem qd_M_told_8 : decode qb_M_told 8 = .ok (.iload_n 2, 1) := by decide +kernel
theorem qd_M_told_9 : decode qb_M_told 9 = .ok (.iconst 0, 1) := by decide +kernel
theorem qd_M_told_10 : decode qb_M_told 10 = .ok (.iconst 4, 1) := by decide +kernel
theorem qd_M_told_11 : decode qb_M_told 11 = .ok (.invokestatic 123, 3) := by decide +kernel
theorem qd_M_told_14 : decode qb_M_told 14 = .ok (.ifCond .ne 6, 3) := by decide +kernel
theorem qd_M_told_17 : decode qb_M_told 17 = .ok (.bipush (-2), 2) := by decide +kernel
theorem qd_M_told_19 : decode qb_M_told 19 = .ok (.ireturn, 1) := by decide +kernel
theorem qd_M_told_20 : decode qb_M_told 20 = .ok (.iload_n 2, 1) := by decide +kernel
theorem qd_M_told_21 : decode qb_M_told 21 = .ok (.tableswitch 59 0 3 #[31, 38, 45, 52], 31) := by decide +kernel
theorem qd_M_told_52 : decode qb_M_told 52 = .ok (.aload_n 0, 1) := by decide +kernel
theorem qd_M_told_53 : decode qb_M_told 53 = .ok (.getfield 28, 3) := by decide +kernel
theorem qd_M_told_56 : decode qb_M_told 56 = .ok (.iload_n 1, 1) := by decide +kernel
theorem qd_M_told_57 : decode qb_M_told 57 = .ok (.iaload, 1) := by decide +kernel
theorem qd_M_told_58 : decode qb_M_told 58 = .ok (.ireturn, 1) := by decide +kernel
theorem qd_M_told_59 : decode qb_M_told 59 = .ok (.aload_n 0, 1) := by decide +kernel
theorem qd_M_told_60 : decode qb_M_told 60 = .ok (.getfield 31, 3) := by decide +kernel
theorem qd_M_told_63 : decode qb_M_told 63 = .ok (.iload_n 1, 1) := by decide +kernel
theorem qd_M_told_64 : decode qb_M_told 64 = .ok (.iaload, 1) := by decide +kernel
theorem qd_M_told_65 : decode qb_M_told 65 = .ok (.ireturn, 1) := by decide +kernel
theorem qd_M_told_66 : decode qb_M_told 66 = .ok (.aload_n 0, 1) := by decide +kernel
theorem qd_M_told_67 : decode qb_M_told 67 = .ok (.getfield 34, 3) := by decide +kernel
theorem qd_M_told_70 : decode qb_M_told 70 = .ok (.iload_n 1, 1) := by decide +kernel
theorem qd_M_told_71 : decode qb_M_told 71 = .ok (.iaload, 1) := by decide +kernel
theorem qd_M_told_72 : decode qb_M_told 72 = .ok (.ireturn, 1) := by decide +kernel
theorem qd_M_told_73 : decode qb_M_told 73 = .ok (.aload_n 0, 1) := by decide +kernel
theorem qd_M_told_74 : decode qb_M_told 74 = .ok (.getfield 37, 3) := by decide +kernel
theorem qd_M_told_77 : decode qb_M_told 77 = .ok (.iload_n 1, 1) := by decide +kernel
theorem qd_M_told_78 : decode qb_M_told 78 = .ok (.iaload, 1) := by decide +kernel
theorem qd_M_told_79 : decode qb_M_told 79 = .ok (.ireturn, 1) := by decide +kernel
theorem qd_M_told_80 : decode qb_M_told 80 = .ok (.aload_n 0, 1) := by decide +kernel
theorem qd_M_told_81 : decode qb_M_told 81 = .ok (.getfield 40, 3) := by decide +kernel
theorem qd_M_told_84 : decode qb_M_told 84 = .ok (.iload_n 1, 1) := by decide +kernel
theorem qd_M_told_85 : decode qb_M_told 85 = .ok (.iaload, 1) := by decide +kernel
theorem qd_M_told_86 : decode qb_M_told 86 = .ok (.ireturn, 1) := by decide +kernel
theorem qd_M_known_0 : decode qb_M_known 0 = .ok (.aload_n 0, 1) := by decide +kernel
theorem qd_M_known_1 : decode qb_M_known 1 = .ok (.iload_n 1, 1) := by decide +kernel
theorem qd_M_known_2 : decode qb_M_known 2 = .ok (.invokevirtual 127, 3) := by decide +kernel
theorem qd_M_known_5 : decode qb_M_known 5 = .ok (.ifCond .eq 12, 3) := by decide +kernel
theorem qd_M_known_8 : decode qb_M_known 8 = .ok (.iload_n 2, 1) := by decide +kernel
theorem qd_M_known_9 : decode qb_M_known 9 = .ok (.iconst 0, 1) := by decide +kernel
theorem qd_M_known_10 : decode qb_M_known 10 = .ok (.iconst 3, 1) := by decide +kernel
theorem qd_M_known_11 : decode qb_M_known 11 = .ok (.invokestatic 123, 3) := by decide +kernel
theorem qd_M_known_14 : decode qb_M_known 14 = .ok (.ifCond .ne 6, 3) := by decide +kernel
theorem qd_M_known_17 : decode qb_M_known 17 = .ok (.bipush (-2), 2) := by decide +kernel
theorem qd_M_known_19 : decode qb_M_known 19 = .ok (.ireturn, 1) := by decide +kernel
theorem qd_M_known_20 : decode qb_M_known 20 = .ok (.aload_n 0, 1) := by decide +kernel
theorem qd_M_known_21 : decode qb_M_known 21 = .ok (.invokevirtual 149, 3) := by decide +kernel
theorem qd_M_known_24 : decode qb_M_known 24 = .ok (.iconst 0, 1) := by decide +kernel
theorem qd_M_known_25 : decode qb_M_known 25 = .ok (.istore_n 3, 1) := by decide +kernel
theorem qd_M_known_26 : decode qb_M_known 26 = .ok (.iconst 0, 1) := by decide +kernel
theorem qd_M_known_27 : decode qb_M_known 27 = .ok (.istore 4, 2) := by decide +kernel
theorem qd_M_known_29 : decode qb_M_known 29 = .ok (.iload 4, 2) := by decide +kernel
theorem qd_M_known_31 : decode qb_M_known 31 = .ok (.aload_n 0, 1) := by decide +kernel
theorem qd_M_known_32 : decode qb_M_known 32 = .ok (.getfield 95, 3) := by decide +kernel
theorem qd_M_known_35 : decode qb_M_known 35 = .ok (.if_icmp .ge 55, 3) := by decide +kernel
theorem qd_M_known_38 : decode qb_M_known 38 = .ok (.iload_n 3, 1) := by decide +kernel
theorem qd_M_known_39 : decode qb_M_known 39 = .ok (.iload_n 2, 1) := by decide +kernel
theorem qd_M_known_40 : decode qb_M_known 40 = .ok (.iconst 2, 1) := by decide +kernel
theorem qd_M_known_41 : decode qb_M_known 41 = .ok (.if_icmp .ne 21, 3) := by decide +kernel
theorem qd_M_known_44 : decode qb_M_known 44 = .ok (.aload_n 0, 1) := by decide +kernel
theorem qd_M_known_45 : decode qb_M_known 45 = .ok (.iload 4, 2) := by decide +kernel
theorem qd_M_known_47 : decode qb_M_known 47 = .ok (.iload_n 1, 1) := by decide +kernel
theorem qd_M_known_48 : decode qb_M_known 48 = .ok (.invokevirtual 152, 3) := by decide +kernel
theorem qd_M_known_51 : decode qb_M_known 51 = .ok (.ifCond .eq 7, 3) := by decide +kernel
theorem qd_M_known_54 : decode qb_M_known 54 = .ok (.iconst 1, 1) := by decide +kernel
theorem qd_M_known_55 : decode qb_M_known 55 = .ok (.goto 27, 3) := by decide +kernel
theorem qd_M_known_58 : decode qb_M_known 58 = .ok (.iconst 0, 1) := by decide +kernel
theorem qd_M_known_59 : decode qb_M_known 59 = .ok (.goto 23, 3) := by decide +kernel
theorem qd_M_known_62 : decode qb_M_known 62 = .ok (.aload_n 0, 1) := by decide +kernel
theorem qd_M_known_63 : decode qb_M_known 63 = .ok (.getfield 52, 3) := by decide +kernel
theorem qd_M_known_66 : decode qb_M_known 66 = .ok (.bipush 12, 2) := by decide +kernel
theorem qd_M_known_68 : decode qb_M_known 68 = .ok (.iload 4, 2) := by decide +kernel
theorem qd_M_known_70 : decode qb_M_known 70 = .ok (.imul, 1) := by decide +kernel
theorem qd_M_known_71 : decode qb_M_known 71 = .ok (.iload_n 1, 1) := by decide +kernel
theorem qd_M_known_72 : decode qb_M_known 72 = .ok (.iadd, 1) := by decide +kernel
theorem qd_M_known_73 : decode qb_M_known 73 = .ok (.baload, 1) := by decide +kernel
theorem qd_M_known_74 : decode qb_M_known 74 = .ok (.ifCond .eq 7, 3) := by decide +kernel
theorem qd_M_known_77 : decode qb_M_known 77 = .ok (.iconst 1, 1) := by decide +kernel
theorem qd_M_known_78 : decode qb_M_known 78 = .ok (.goto 4, 3) := by decide +kernel
theorem qd_M_known_81 : decode qb_M_known 81 = .ok (.iconst 0, 1) := by decide +kernel
theorem qd_M_known_82 : decode qb_M_known 82 = .ok (.iadd, 1) := by decide +kernel
theorem qd_M_known_83 : decode qb_M_known 83 = .ok (.istore_n 3, 1) := by decide +kernel
theorem qd_M_known_84 : decode qb_M_known 84 = .ok (.iinc 4 1, 3) := by decide +kernel
theorem qd_M_known_87 : decode qb_M_known 87 = .ok (.goto (-58), 3) := by decide +kernel
theorem qd_M_known_90 : decode qb_M_known 90 = .ok (.iload_n 2, 1) := by decide +kernel
theorem qd_M_known_91 : decode qb_M_known 91 = .ok (.ifCond .ne 12, 3) := by decide +kernel
theorem qd_M_known_94 : decode qb_M_known 94 = .ok (.aload_n 0, 1) := by decide +kernel
theorem qd_M_known_95 : decode qb_M_known 95 = .ok (.getfield 7, 3) := by decide +kernel
theorem qd_M_known_98 : decode qb_M_known 98 = .ok (.iload_n 1, 1) := by decide +kernel
theorem qd_M_known_99 : decode qb_M_known 99 = .ok (.iaload, 1) := by decide +kernel
theorem qd_M_known_100 : decode qb_M_known 100 = .ok (.goto 18, 3) := by decide +kernel
theorem qd_M_known_103 : decode qb_M_known 103 = .ok (.iload_n 2, 1) := by decide +kernel
theorem qd_M_known_104 : decode qb_M_known 104 = .ok (.iconst 1, 1) := by decide +kernel
theorem qd_M_known_105 : decode qb_M_known 105 = .ok (.if_icmp .ne 12, 3) := by decide +kernel
theorem qd_M_known_108 : decode qb_M_known 108 = .ok (.aload_n 0, 1) := by decide +kernel
theorem qd_M_known_109 : decode qb_M_known 109 = .ok (.getfield 13, 3) := by decide +kernel
theorem qd_M_known_112 : decode qb_M_known 112 = .ok (.iload_n 1, 1) := by decide +kernel
theorem qd_M_known_113 : decode qb_M_known 113 = .ok (.iaload, 1) := by decide +kernel
theorem qd_M_known_114 : decode qb_M_known 114 = .ok (.goto 4, 3) := by decide +kernel
theorem qd_M_known_117 : decode qb_M_known 117 = .ok (.iload_n 3, 1) := by decide +kernel
theorem qd_M_known_118 : decode qb_M_known 118 = .ok (.ireturn, 1) := by decide +kernel
theorem qd_M_order_0 : decode qb_M_order 0 = .ok (.iconst 0, 1) := by decide +kernel
theorem qd_M_order_1 : decode qb_M_order 1 = .ok (.istore_n 1, 1) := by decide +kernel
theorem qd_M_order_2 : decode qb_M_order 2 = .ok (.iload_n 1, 1) := by decide +kernel
theorem qd_M_order_3 : decode qb_M_order 3 = .ok (.aload_n 0, 1) := by decide +kernel
theorem qd_M_order_4 : decode qb_M_order 4 = .ok (.getfield 95, 3) := by decide +kernel
theorem qd_M_order_7 : decode qb_M_order 7 = .ok (.if_icmp .ge 116, 3) := by decide +kernel
theorem qd_M_order_10 : decode qb_M_order 10 = .ok (.iconst 0, 1) := by decide +kernel
theorem qd_M_order_11 : decode qb_M_order 11 = .ok (.istore_n 2, 1) := by decide +kernel
theorem qd_M_order_12 : decode qb_M_order 12 = .ok (.iload_n 2, 1) := by decide +kernel
theorem qd_M_order_13 : decode qb_M_order 13 = .ok (.aload_n 0, 1) := by decide +kernel
theorem qd_M_order_14 : decode qb_M_order 14 = .ok (.getfield 95, 3) := by decide +kernel
theorem qd_M_order_17 : decode qb_M_order 17 = .ok (.if_icmp .ge 100, 3) := by decide +kernel
theorem qd_M_order_20 : decode qb_M_order 20 = .ok (.iload_n 1, 1) := by decide +kernel
theorem qd_M_order_21 : decode qb_M_order 21 = .ok (.iload_n 2, 1) := by decide +kernel
theorem qd_M_order_22 : decode qb_M_order 22 = .ok (.if_icmp .eq 7, 3) := by decide +kernel
theorem qd_M_order_25 : decode qb_M_order 25 = .ok (.iload_n 2, 1) := by decide +kernel
theorem qd_M_order_26 : decode qb_M_order 26 = .ok (.ifCond .ne 7, 3) := by decide +kernel
theorem qd_M_order_29 : decode qb_M_order 29 = .ok (.iconst 1, 1) := by decide +kernel
theorem qd_M_order_30 : decode qb_M_order 30 = .ok (.goto 4, 3) := by decide +kernel
theorem qd_M_order_33 : decode qb_M_order 33 = .ok (.iconst 0, 1) := by decide +kernel
theorem qd_M_order_34 : decode qb_M_order 34 = .ok (.istore_n 3, 1) := by decide +kernel
theorem qd_M_order_35 : decode qb_M_order 35 = .ok (.iconst 0, 1) := by decide +kernel
theorem qd_M_order_36 : decode qb_M_order 36 = .ok (.istore 4, 2) := by decide +kernel
theorem qd_M_order_38 : decode qb_M_order 38 = .ok (.iload 4, 2) := by decide +kernel
theorem qd_M_order_40 : decode qb_M_order 40 = .ok (.aload_n 0, 1) := by decide +kernel
theorem qd_M_order_41 : decode qb_M_order 41 = .ok (.iload_n 1, 1) := by decide +kernel
theorem qd_M_order_42 : decode qb_M_order 42 = .ok (.invokevirtual 141, 3) := by decide +kernel
theorem qd_M_order_45 : decode qb_M_order 45 = .ok (.if_icmp .ge 54, 3) := by decide +kernel
theorem qd_M_order_48 : decode qb_M_order 48 = .ok (.aload_n 0, 1) := by decide +kernel
theorem qd_M_order_49 : decode qb_M_order 49 = .ok (.iload_n 1, 1) := by decide +kernel
theorem qd_M_order_50 : decode qb_M_order 50 = .ok (.iload 4, 2) := by decide +kernel
theorem qd_M_order_52 : decode qb_M_order 52 = .ok (.invokevirtual 145, 3) := by decide +kernel
theorem qd_M_order_55 : decode qb_M_order 55 = .ok (.istore 5, 2) := by decide +kernel
theorem qd_M_order_57 : decode qb_M_order 57 = .ok (.iload_n 3, 1) := by decide +kernel
theorem qd_M_order_58 : decode qb_M_order 58 = .ok (.ifCond .ne 29, 3) := by decide +kernel
theorem qd_M_order_61 : decode qb_M_order 61 = .ok (.iload 5, 2) := by decide +kernel
theorem qd_M_order_63 : decode qb_M_order 63 = .ok (.iconst (-1), 1) := by decide +kernel
theorem qd_M_order_64 : decode qb_M_order 64 = .ok (.if_icmp .eq 27, 3) := by decide +kernel
theorem qd_M_order_67 : decode qb_M_order 67 = .ok (.aload_n 0, 1) := by decide +kernel
theorem qd_M_order_68 : decode qb_M_order 68 = .ok (.getfield 52, 3) := by decide +kernel
theorem qd_M_order_71 : decode qb_M_order 71 = .ok (.bipush 12, 2) := by decide +kernel
theorem qd_M_order_73 : decode qb_M_order 73 = .ok (.aload_n 0, 1) := by decide +kernel
theorem qd_M_order_74 : decode qb_M_order 74 = .ok (.getfield 31, 3) := by decide +kernel
theorem qd_M_order_77 : decode qb_M_order 77 = .ok (.iload 5, 2) := by decide +kernel
theorem qd_M_order_79 : decode qb_M_order 79 = .ok (.iaload, 1) := by decide +kernel
theorem qd_M_order_80 : decode qb_M_order 80 = .ok (.imul, 1) := by decide +kernel
theorem qd_M_order_81 : decode qb_M_order 81 = .ok (.iload_n 2, 1) := by decide +kernel
theorem qd_M_order_82 : decode qb_M_order 82 = .ok (.iadd, 1) := by decide +kernel
theorem qd_M_order_83 : decode qb_M_order 83 = .ok (.baload, 1) := by decide +kernel
theorem qd_M_order_84 : decode qb_M_order 84 = .ok (.ifCond .eq 7, 3) := by decide +kernel
theorem qd_M_order_87 : decode qb_M_order 87 = .ok (.iconst 1, 1) := by decide +kernel
theorem qd_M_order_88 : decode qb_M_order 88 = .ok (.goto 4, 3) := by decide +kernel
theorem qd_M_order_91 : decode qb_M_order 91 = .ok (.iconst 0, 1) := by decide +kernel
theorem qd_M_order_92 : decode qb_M_order 92 = .ok (.istore_n 3, 1) := by decide +kernel
theorem qd_M_order_93 : decode qb_M_order 93 = .ok (.iinc 4 1, 3) := by decide +kernel
theorem qd_M_order_96 : decode qb_M_order 96 = .ok (.goto (-58), 3) := by decide +kernel
theorem qd_M_order_99 : decode qb_M_order 99 = .ok (.aload_n 0, 1) := by decide +kernel
theorem qd_M_order_100 : decode qb_M_order 100 = .ok (.getfield 52, 3) := by decide +kernel
theorem qd_M_order_103 : decode qb_M_order 103 = .ok (.bipush 12, 2) := by decide +kernel
theorem qd_M_order_105 : decode qb_M_order 105 = .ok (.iload_n 1, 1) := by decide +kernel
theorem qd_M_order_106 : decode qb_M_order 106 = .ok (.imul, 1) := by decide +kernel
theorem qd_M_order_107 : decode qb_M_order 107 = .ok (.iload_n 2, 1) := by decide +kernel
theorem qd_M_order_108 : decode qb_M_order 108 = .ok (.iadd, 1) := by decide +kernel
theorem qd_M_order_109 : decode qb_M_order 109 = .ok (.iload_n 3, 1) := by decide +kernel
theorem qd_M_order_110 : decode qb_M_order 110 = .ok (.bastore, 1) := by decide +kernel
theorem qd_M_order_111 : decode qb_M_order 111 = .ok (.iinc 2 1, 3) := by decide +kernel
theorem qd_M_order_114 : decode qb_M_order 114 = .ok (.goto (-102), 3) := by decide +kernel
theorem qd_M_order_117 : decode qb_M_order 117 = .ok (.iinc 1 1, 3) := by decide +kernel
theorem qd_M_order_120 : decode qb_M_order 120 = .ok (.goto (-118), 3) := by decide +kernel
theorem qd_M_order_123 : decode qb_M_order 123 = .ok (.return_, 1) := by decide +kernel
theorem qd_M_superCount_0 : decode qb_M_superCount 0 = .ok (.iconst 1, 1) := by decide +kernel
theorem qd_M_superCount_1 : decode qb_M_superCount 1 = .ok (.aload_n 0, 1) := by decide +kernel
theorem qd_M_superCount_2 : decode qb_M_superCount 2 = .ok (.getfield 19, 3) := by decide +kernel
theorem qd_M_superCount_5 : decode qb_M_superCount 5 = .ok (.iload_n 1, 1) := by decide +kernel
theorem qd_M_superCount_6 : decode qb_M_superCount 6 = .ok (.iaload, 1) := by decide +kernel
theorem qd_M_superCount_7 : decode qb_M_superCount 7 = .ok (.iadd, 1) := by decide +kernel
theorem qd_M_superCount_8 : decode qb_M_superCount 8 = .ok (.ireturn, 1) := by decide +kernel
theorem qd_M_superOf_0 : decode qb_M_superOf 0 = .ok (.iload_n 2, 1) := by decide +kernel
theorem qd_M_superOf_1 : decode qb_M_superOf 1 = .ok (.ifCond .le 14, 3) := by decide +kernel
theorem qd_M_superOf_4 : decode qb_M_superOf 4 = .ok (.aload_n 0, 1) := by decide +kernel
theorem qd_M_superOf_5 : decode qb_M_superOf 5 = .ok (.getfield 16, 3) := by decide +kernel
theorem qd_M_superOf_8 : decode qb_M_superOf 8 = .ok (.iconst 3, 1) := by decide +kernel
theorem qd_M_superOf_9 : decode qb_M_superOf 9 = .ok (.iload_n 1, 1) := by decide +kernel
theorem qd_M_superOf_10 : decode qb_M_superOf 10 = .ok (.imul, 1) := by decide +kernel
theorem qd_M_superOf_11 : decode qb_M_superOf 11 = .ok (.iload_n 2, 1) := by decide +kernel
theorem qd_M_superOf_12 : decode qb_M_superOf 12 = .ok (.iadd, 1) := by decide +kernel
theorem qd_M_superOf_13 : decode qb_M_superOf 13 = .ok (.iaload, 1) := by decide +kernel
theorem qd_M_superOf_14 : decode qb_M_superOf 14 = .ok (.ireturn, 1) := by decide +kernel
theorem qd_M_superOf_15 : decode qb_M_superOf 15 = .ok (.aload_n 0, 1) := by decide +kernel
theorem qd_M_superOf_16 : decode qb_M_superOf 16 = .ok (.getfield 16, 3) := by decide +kernel
theorem qd_M_superOf_19 : decode qb_M_superOf 19 = .ok (.iconst 3, 1) := by decide +kernel
theorem qd_M_superOf_20 : decode qb_M_superOf 20 = .ok (.iload_n 1, 1) := by decide +kernel
theorem qd_M_superOf_21 : decode qb_M_superOf 21 = .ok (.imul, 1) := by decide +kernel
theorem qd_M_superOf_22 : decode qb_M_superOf 22 = .ok (.iaload, 1) := by decide +kernel
theorem qd_M_superOf_23 : decode qb_M_superOf 23 = .ok (.iconst (-1), 1) := by decide +kernel
theorem qd_M_superOf_24 : decode qb_M_superOf 24 = .ok (.if_icmp .eq 14, 3) := by decide +kernel
theorem qd_M_superOf_27 : decode qb_M_superOf 27 = .ok (.aload_n 0, 1) := by decide +kernel
theorem qd_M_superOf_28 : decode qb_M_superOf 28 = .ok (.getfield 16, 3) := by decide +kernel
theorem qd_M_superOf_31 : decode qb_M_superOf 31 = .ok (.iconst 3, 1) := by decide +kernel
theorem qd_M_superOf_32 : decode qb_M_superOf 32 = .ok (.iload_n 1, 1) := by decide +kernel
theorem qd_M_superOf_33 : decode qb_M_superOf 33 = .ok (.imul, 1) := by decide +kernel
theorem qd_M_superOf_34 : decode qb_M_superOf 34 = .ok (.iaload, 1) := by decide +kernel
theorem qd_M_superOf_35 : decode qb_M_superOf 35 = .ok (.goto 22, 3) := by decide +kernel
theorem qd_M_superOf_38 : decode qb_M_superOf 38 = .ok (.iload_n 1, 1) := by decide +kernel
theorem qd_M_superOf_39 : decode qb_M_superOf 39 = .ok (.ifCond .eq 13, 3) := by decide +kernel
theorem qd_M_superOf_42 : decode qb_M_superOf 42 = .ok (.aload_n 0, 1) := by decide +kernel
theorem qd_M_superOf_43 : decode qb_M_superOf 43 = .ok (.getfield 7, 3) := by decide +kernel
theorem qd_M_superOf_46 : decode qb_M_superOf 46 = .ok (.iload_n 1, 1) := by decide +kernel
theorem qd_M_superOf_47 : decode qb_M_superOf 47 = .ok (.iaload, 1) := by decide +kernel
theorem qd_M_superOf_48 : decode qb_M_superOf 48 = .ok (.iconst 2, 1) := by decide +kernel
theorem qd_M_superOf_49 : decode qb_M_superOf 49 = .ok (.if_icmp .le 7, 3) := by decide +kernel
theorem qd_M_superOf_52 : decode qb_M_superOf 52 = .ok (.iconst (-1), 1) := by decide +kernel
theorem qd_M_superOf_53 : decode qb_M_superOf 53 = .ok (.goto 4, 3) := by decide +kernel
theorem qd_M_superOf_56 : decode qb_M_superOf 56 = .ok (.iconst 0, 1) := by decide +kernel
theorem qd_M_superOf_57 : decode qb_M_superOf 57 = .ok (.ireturn, 1) := by decide +kernel
theorem qd_M_isHeir_0 : decode qb_M_isHeir 0 = .ok (.iconst 0, 1) := by decide +kernel
theorem qd_M_isHeir_1 : decode qb_M_isHeir 1 = .ok (.istore_n 3, 1) := by decide +kernel
theorem qd_M_isHeir_2 : decode qb_M_isHeir 2 = .ok (.iconst 0, 1) := by decide +kernel
theorem qd_M_isHeir_3 : decode qb_M_isHeir 3 = .ok (.istore 4, 2) := by decide +kernel
theorem qd_M_isHeir_5 : decode qb_M_isHeir 5 = .ok (.iload 4, 2) := by decide +kernel
theorem qd_M_isHeir_7 : decode qb_M_isHeir 7 = .ok (.aload_n 0, 1) := by decide +kernel
theorem qd_M_isHeir_8 : decode qb_M_isHeir 8 = .ok (.iload_n 1, 1) := by decide +kernel
theorem qd_M_isHeir_9 : decode qb_M_isHeir 9 = .ok (.invokevirtual 141, 3) := by decide +kernel
theorem qd_M_isHeir_12 : decode qb_M_isHeir 12 = .ok (.if_icmp .ge 45, 3) := by decide +kernel
theorem qd_M_isHeir_15 : decode qb_M_isHeir 15 = .ok (.aload_n 0, 1) := by decide +kernel
theorem qd_M_isHeir_16 : decode qb_M_isHeir 16 = .ok (.iload_n 1, 1) := by decide +kernel
theorem qd_M_isHeir_17 : decode qb_M_isHeir 17 = .ok (.iload 4, 2) := by decide +kernel
theorem qd_M_isHeir_19 : decode qb_M_isHeir 19 = .ok (.invokevirtual 145, 3) := by decide +kernel
theorem qd_M_isHeir_22 : decode qb_M_isHeir 22 = .ok (.istore 5, 2) := by decide +kernel
theorem qd_M_isHeir_24 : decode qb_M_isHeir 24 = .ok (.iload_n 3, 1) := by decide +kernel
theorem qd_M_isHeir_25 : decode qb_M_isHeir 25 = .ok (.ifCond .ne 20, 3) := by decide +kernel
theorem qd_M_isHeir_28 : decode qb_M_isHeir 28 = .ok (.iload 5, 2) := by decide +kernel
theorem qd_M_isHeir_30 : decode qb_M_isHeir 30 = .ok (.iconst (-1), 1) := by decide +kernel
theorem qd_M_isHeir_31 : decode qb_M_isHeir 31 = .ok (.if_icmp .eq 18, 3) := by decide +kernel
theorem qd_M_isHeir_34 : decode qb_M_isHeir 34 = .ok (.aload_n 0, 1) := by decide +kernel
theorem qd_M_isHeir_35 : decode qb_M_isHeir 35 = .ok (.getfield 31, 3) := by decide +kernel
theorem qd_M_isHeir_38 : decode qb_M_isHeir 38 = .ok (.iload 5, 2) := by decide +kernel
theorem qd_M_isHeir_40 : decode qb_M_isHeir 40 = .ok (.iaload, 1) := by decide +kernel
theorem qd_M_isHeir_41 : decode qb_M_isHeir 41 = .ok (.iload_n 2, 1) := by decide +kernel
theorem qd_M_isHeir_42 : decode qb_M_isHeir 42 = .ok (.if_icmp .ne 7, 3) := by decide +kernel
theorem qd_M_isHeir_45 : decode qb_M_isHeir 45 = .ok (.iconst 1, 1) := by decide +kernel
theorem qd_M_isHeir_46 : decode qb_M_isHeir 46 = .ok (.goto 4, 3) := by decide +kernel
theorem qd_M_isHeir_49 : decode qb_M_isHeir 49 = .ok (.iconst 0, 1) := by decide +kernel
theorem qd_M_isHeir_50 : decode qb_M_isHeir 50 = .ok (.istore_n 3, 1) := by decide +kernel
theorem qd_M_isHeir_51 : decode qb_M_isHeir 51 = .ok (.iinc 4 1, 3) := by decide +kernel
theorem qd_M_isHeir_54 : decode qb_M_isHeir 54 = .ok (.goto (-49), 3) := by decide +kernel
theorem qd_M_isHeir_57 : decode qb_M_isHeir 57 = .ok (.iload_n 3, 1) := by decide +kernel
theorem qd_M_isHeir_58 : decode qb_M_isHeir 58 = .ok (.ireturn, 1) := by decide +kernel
theorem qd_M_below_0 : decode qb_M_below 0 = .ok (.aload_n 0, 1) := by decide +kernel
theorem qd_M_below_1 : decode qb_M_below 1 = .ok (.iload_n 1, 1) := by decide +kernel
theorem qd_M_below_2 : decode qb_M_below 2 = .ok (.invokevirtual 127, 3) := by decide +kernel
theorem qd_M_below_5 : decode qb_M_below 5 = .ok (.ifCond .eq 11, 3) := by decide +kernel
theorem qd_M_below_8 : decode qb_M_below 8 = .ok (.aload_n 0, 1) := by decide +kernel
theorem qd_M_below_9 : decode qb_M_below 9 = .ok (.iload_n 2, 1) := by decide +kernel
theorem qd_M_below_10 : decode qb_M_below 10 = .ok (.invokevirtual 127, 3) := by decide +kernel
theorem qd_M_below_13 : decode qb_M_below 13 = .ok (.ifCond .ne 6, 3) := by decide +kernel
theorem qd_M_below_16 : decode qb_M_below 16 = .ok (.bipush (-2), 2) := by decide +kernel
theorem qd_M_below_18 : decode qb_M_below 18 = .ok (.ireturn, 1) := by decide +kernel
theorem qd_M_below_19 : decode qb_M_below 19 = .ok (.aload_n 0, 1) := by decide +kernel
theorem qd_M_below_20 : decode qb_M_below 20 = .ok (.invokevirtual 149, 3) := by decide +kernel
theorem qd_M_below_23 : decode qb_M_below 23 = .ok (.aload_n 0, 1) := by decide +kernel
theorem qd_M_below_24 : decode qb_M_below 24 = .ok (.getfield 52, 3) := by decide +kernel
theorem qd_M_below_27 : decode qb_M_below 27 = .ok (.bipush 12, 2) := by decide +kernel
theorem qd_M_below_29 : decode qb_M_below 29 = .ok (.iload_n 1, 1) := by decide +kernel
theorem qd_M_below_30 : decode qb_M_below 30 = .ok (.imul, 1) := by decide +kernel
theorem qd_M_below_31 : decode qb_M_below 31 = .ok (.iload_n 2, 1) := by decide +kernel
theorem qd_M_below_32 : decode qb_M_below 32 = .ok (.iadd, 1) := by decide +kernel
theorem qd_M_below_33 : decode qb_M_below 33 = .ok (.baload, 1) := by decide +kernel
theorem qd_M_below_34 : decode qb_M_below 34 = .ok (.ifCond .eq 7, 3) := by decide +kernel
theorem qd_M_below_37 : decode qb_M_below 37 = .ok (.iconst 1, 1) := by decide +kernel
theorem qd_M_below_38 : decode qb_M_below 38 = .ok (.goto 4, 3) := by decide +kernel
theorem qd_M_below_41 : decode qb_M_below 41 = .ok (.iconst 0, 1) := by decide +kernel
theorem qd_M_below_42 : decode qb_M_below 42 = .ok (.ireturn, 1) := by decide +kernel
theorem qd_M_apart_0 : decode qb_M_apart 0 = .ok (.aload_n 0, 1) := by decide +kernel
theorem qd_M_apart_1 : decode qb_M_apart 1 = .ok (.iload_n 1, 1) := by decide +kernel
theorem qd_M_apart_2 : decode qb_M_apart 2 = .ok (.invokevirtual 127, 3) := by decide +kernel
theorem qd_M_apart_5 : decode qb_M_apart 5 = .ok (.ifCond .eq 11, 3) := by decide +kernel
theorem qd_M_apart_8 : decode qb_M_apart 8 = .ok (.aload_n 0, 1) := by decide +kernel
theorem qd_M_apart_9 : decode qb_M_apart 9 = .ok (.iload_n 2, 1) := by decide +kernel
theorem qd_M_apart_10 : decode qb_M_apart 10 = .ok (.invokevirtual 127, 3) := by decide +kernel
theorem qd_M_apart_13 : decode qb_M_apart 13 = .ok (.ifCond .ne 6, 3) := by decide +kernel
theorem qd_M_apart_16 : decode qb_M_apart 16 = .ok (.bipush (-2), 2) := by decide +kernel
theorem qd_M_apart_18 : decode qb_M_apart 18 = .ok (.ireturn, 1) := by decide +kernel
theorem qd_M_apart_19 : decode qb_M_apart 19 = .ok (.aload_n 0, 1) := by decide +kernel
theorem qd_M_apart_20 : decode qb_M_apart 20 = .ok (.invokevirtual 163, 3) := by decide +kernel
theorem qd_M_apart_23 : decode qb_M_apart 23 = .ok (.aload_n 0, 1) := by decide +kernel
theorem qd_M_apart_24 : decode qb_M_apart 24 = .ok (.getfield 56, 3) := by decide +kernel
theorem qd_M_apart_27 : decode qb_M_apart 27 = .ok (.bipush 12, 2) := by decide +kernel
theorem qd_M_apart_29 : decode qb_M_apart 29 = .ok (.iload_n 1, 1) := by decide +kernel
theorem qd_M_apart_30 : decode qb_M_apart 30 = .ok (.imul, 1) := by decide +kernel
theorem qd_M_apart_31 : decode qb_M_apart 31 = .ok (.iload_n 2, 1) := by decide +kernel
theorem qd_M_apart_32 : decode qb_M_apart 32 = .ok (.iadd, 1) := by decide +kernel
theorem qd_M_apart_33 : decode qb_M_apart 33 = .ok (.baload, 1) := by decide +kernel
theorem qd_M_apart_34 : decode qb_M_apart 34 = .ok (.ifCond .eq 7, 3) := by decide +kernel
theorem qd_M_apart_37 : decode qb_M_apart 37 = .ok (.iconst 1, 1) := by decide +kernel
theorem qd_M_apart_38 : decode qb_M_apart 38 = .ok (.goto 4, 3) := by decide +kernel
theorem qd_M_apart_41 : decode qb_M_apart 41 = .ok (.iconst 0, 1) := by decide +kernel
theorem qd_M_apart_42 : decode qb_M_apart 42 = .ok (.ireturn, 1) := by decide +kernel
theorem qd_M_part_0 : decode qb_M_part 0 = .ok (.aload_n 0, 1) := by decide +kernel
theorem qd_M_part_1 : decode qb_M_part 1 = .ok (.invokevirtual 149, 3) := by decide +kernel
theorem qd_M_part_4 : decode qb_M_part 4 = .ok (.aload_n 0, 1) := by decide +kernel
theorem qd_M_part_5 : decode qb_M_part 5 = .ok (.getfield 95, 3) := by decide +kernel
theorem qd_M_part_8 : decode qb_M_part 8 = .ok (.iconst 1, 1) := by decide +kernel
theorem qd_M_part_9 : decode qb_M_part 9 = .ok (.isub, 1) := by decide +kernel
theorem qd_M_part_10 : decode qb_M_part 10 = .ok (.istore_n 1, 1) := by decide +kernel
theorem qd_M_part_11 : decode qb_M_part 11 = .ok (.iload_n 1, 1) := by decide +kernel
theorem qd_M_part_12 : decode qb_M_part 12 = .ok (.ifCond .lt 160, 3) := by decide +kernel
theorem qd_M_part_15 : decode qb_M_part 15 = .ok (.aload_n 0, 1) := by decide +kernel
theorem qd_M_part_16 : decode qb_M_part 16 = .ok (.getfield 95, 3) := by decide +kernel
theorem qd_M_part_19 : decode qb_M_part 19 = .ok (.iconst 1, 1) := by decide +kernel
theorem qd_M_part_20 : decode qb_M_part 20 = .ok (.isub, 1) := by decide +kernel
theorem qd_M_part_21 : decode qb_M_part 21 = .ok (.istore_n 2, 1) := by decide +kernel
theorem qd_M_part_22 : decode qb_M_part 22 = .ok (.iload_n 2, 1) := by decide +kernel
theorem qd_M_part_23 : decode qb_M_part 23 = .ok (.ifCond .lt 143, 3) := by decide +kernel
theorem qd_M_part_26 : decode qb_M_part 26 = .ok (.iconst 0, 1) := by decide +kernel
theorem qd_M_part_27 : decode qb_M_part 27 = .ok (.istore_n 3, 1) := by decide +kernel
theorem qd_M_part_28 : decode qb_M_part 28 = .ok (.aload_n 0, 1) := by decide +kernel
theorem qd_M_part_29 : decode qb_M_part 29 = .ok (.getfield 52, 3) := by decide +kernel
theorem qd_M_part_32 : decode qb_M_part 32 = .ok (.bipush 12, 2) := by decide +kernel
theorem qd_M_part_34 : decode qb_M_part 34 = .ok (.iload_n 1, 1) := by decide +kernel
theorem qd_M_part_35 : decode qb_M_part 35 = .ok (.imul, 1) := by decide +kernel
theorem qd_M_part_36 : decode qb_M_part 36 = .ok (.iload_n 2, 1) := by decide +kernel
theorem qd_M_part_37 : decode qb_M_part 37 = .ok (.iadd, 1) := by decide +kernel
theorem qd_M_part_38 : decode qb_M_part 38 = .ok (.baload, 1) := by decide +kernel
theorem qd_M_part_39 : decode qb_M_part 39 = .ok (.ifCond .ne 109, 3) := by decide +kernel
theorem qd_M_part_42 : decode qb_M_part 42 = .ok (.aload_n 0, 1) := by decide +kernel
theorem qd_M_part_43 : decode qb_M_part 43 = .ok (.getfield 52, 3) := by decide +kernel
theorem qd_M_part_46 : decode qb_M_part 46 = .ok (.bipush 12, 2) := by decide +kernel
theorem qd_M_part_48 : decode qb_M_part 48 = .ok (.iload_n 2, 1) := by decide +kernel
theorem qd_M_part_49 : decode qb_M_part 49 = .ok (.imul, 1) := by decide +kernel
theorem qd_M_part_50 : decode qb_M_part 50 = .ok (.iload_n 1, 1) := by decide +kernel
theorem qd_M_part_51 : decode qb_M_part 51 = .ok (.iadd, 1) := by decide +kernel
theorem qd_M_part_52 : decode qb_M_part 52 = .ok (.baload, 1) := by decide +kernel
theorem qd_M_part_53 : decode qb_M_part 53 = .ok (.ifCond .ne 95, 3) := by decide +kernel
theorem qd_M_part_56 : decode qb_M_part 56 = .ok (.aload_n 0, 1) := by decide +kernel
theorem qd_M_part_57 : decode qb_M_part 57 = .ok (.getfield 7, 3) := by decide +kernel
theorem qd_M_part_60 : decode qb_M_part 60 = .ok (.iload_n 1, 1) := by decide +kernel
theorem qd_M_part_61 : decode qb_M_part 61 = .ok (.iaload, 1) := by decide +kernel
theorem qd_M_part_62 : decode qb_M_part 62 = .ok (.iconst 3, 1) := by decide +kernel
theorem qd_M_part_63 : decode qb_M_part 63 = .ok (.if_icmp .ge 13, 3) := by decide +kernel
theorem qd_M_part_66 : decode qb_M_part 66 = .ok (.aload_n 0, 1) := by decide +kernel
theorem qd_M_part_67 : decode qb_M_part 67 = .ok (.getfield 7, 3) := by decide +kernel
theorem qd_M_part_70 : decode qb_M_part 70 = .ok (.iload_n 2, 1) := by decide +kernel
theorem qd_M_part_71 : decode qb_M_part 71 = .ok (.iaload, 1) := by decide +kernel
theorem qd_M_part_72 : decode qb_M_part 72 = .ok (.iconst 3, 1) := by decide +kernel
theorem qd_M_part_73 : decode qb_M_part 73 = .ok (.if_icmp .lt 23, 3) := by decide +kernel
theorem qd_M_part_76 : decode qb_M_part 76 = .ok (.aload_n 0, 1) := by decide +kernel
theorem qd_M_part_77 : decode qb_M_part 77 = .ok (.getfield 7, 3) := by decide +kernel
theorem qd_M_part_80 : decode qb_M_part 80 = .ok (.iload_n 1, 1) := by decide +kernel
theorem qd_M_part_81 : decode qb_M_part 81 = .ok (.iaload, 1) := by decide +kernel
theorem qd_M_part_82 : decode qb_M_part 82 = .ok (.iconst 1, 1) := by decide +kernel
theorem qd_M_part_83 : decode qb_M_part 83 = .ok (.if_icmp .eq 13, 3) := by decide +kernel
theorem qd_M_part_86 : decode qb_M_part 86 = .ok (.aload_n 0, 1) := by decide +kernel
theorem qd_M_part_87 : decode qb_M_part 87 = .ok (.getfield 7, 3) := by decide +kernel
theorem qd_M_part_90 : decode qb_M_part 90 = .ok (.iload_n 2, 1) := by decide +kernel
theorem qd_M_part_91 : decode qb_M_part 91 = .ok (.iaload, 1) := by decide +kernel
theorem qd_M_part_92 : decode qb_M_part 92 = .ok (.iconst 1, 1) := by decide +kernel
theorem qd_M_part_93 : decode qb_M_part 93 = .ok (.if_icmp .ne 7, 3) := by decide +kernel
theorem qd_M_part_96 : decode qb_M_part 96 = .ok (.iconst 1, 1) := by decide +kernel
theorem qd_M_part_97 : decode qb_M_part 97 = .ok (.goto 4, 3) := by decide +kernel
theorem qd_M_part_100 : decode qb_M_part 100 = .ok (.iconst 0, 1) := by decide +kernel
theorem qd_M_part_101 : decode qb_M_part 101 = .ok (.istore_n 3, 1) := by decide +kernel
theorem qd_M_part_102 : decode qb_M_part 102 = .ok (.iload_n 3, 1) := by decide +kernel
theorem qd_M_part_103 : decode qb_M_part 103 = .ok (.ifCond .ne 39, 3) := by decide +kernel
theorem qd_M_part_106 : decode qb_M_part 106 = .ok (.aload_n 0, 1) := by decide +kernel
theorem qd_M_part_107 : decode qb_M_part 107 = .ok (.iload_n 1, 1) := by decide +kernel
theorem qd_M_part_108 : decode qb_M_part 108 = .ok (.invokevirtual 156, 3) := by decide +kernel
theorem qd_M_part_111 : decode qb_M_part 111 = .ok (.ifCond .eq 13, 3) := by decide +kernel
theorem qd_M_part_114 : decode qb_M_part 114 = .ok (.aload_n 0, 1) := by decide +kernel
theorem qd_M_part_115 : decode qb_M_part 115 = .ok (.iload_n 1, 1) := by decide +kernel
theorem qd_M_part_116 : decode qb_M_part 116 = .ok (.iload_n 2, 1) := by decide +kernel
theorem qd_M_part_117 : decode qb_M_part 117 = .ok (.iconst 1, 1) := by decide +kernel
theorem qd_M_part_118 : decode qb_M_part 118 = .ok (.invokevirtual 159, 3) := by decide +kernel
theorem qd_M_part_121 : decode qb_M_part 121 = .ok (.ifCond .ne 21, 3) := by decide +kernel
theorem qd_M_part_124 : decode qb_M_part 124 = .ok (.aload_n 0, 1) := by decide +kernel
theorem qd_M_part_125 : decode qb_M_part 125 = .ok (.iload_n 2, 1) := by decide +kernel
theorem qd_M_part_126 : decode qb_M_part 126 = .ok (.invokevirtual 156, 3) := by decide +kernel
theorem qd_M_part_129 : decode qb_M_part 129 = .ok (.ifCond .eq 17, 3) := by decide +kernel
theorem qd_M_part_132 : decode qb_M_part 132 = .ok (.aload_n 0, 1) := by decide +kernel
theorem qd_M_part_133 : decode qb_M_part 133 = .ok (.iload_n 2, 1) := by decide +kernel
theorem qd_M_part_134 : decode qb_M_part 134 = .ok (.iload_n 1, 1) := by decide +kernel
theorem qd_M_part_135 : decode qb_M_part 135 = .ok (.iconst 0, 1) := by decide +kernel
theorem qd_M_part_136 : decode qb_M_part 136 = .ok (.invokevirtual 159, 3) := by decide +kernel
theorem qd_M_part_139 : decode qb_M_part 139 = .ok (.ifCond .eq 7, 3) := by decide +kernel
theorem qd_M_part_142 : decode qb_M_part 142 = .ok (.iconst 1, 1) := by decide +kernel
theorem qd_M_part_143 : decode qb_M_part 143 = .ok (.goto 4, 3) := by decide +kernel
theorem qd_M_part_146 : decode qb_M_part 146 = .ok (.iconst 0, 1) := by decide +kernel
theorem qd_M_part_147 : decode qb_M_part 147 = .ok (.istore_n 3, 1) := by decide +kernel
theorem qd_M_part_148 : decode qb_M_part 148 = .ok (.aload_n 0, 1) := by decide +kernel
theorem qd_M_part_149 : decode qb_M_part 149 = .ok (.getfield 56, 3) := by decide +kernel
theorem qd_M_part_152 : decode qb_M_part 152 = .ok (.bipush 12, 2) := by decide +kernel
theorem qd_M_part_154 : decode qb_M_part 154 = .ok (.iload_n 1, 1) := by decide +kernel
theorem qd_M_part_155 : decode qb_M_part 155 = .ok (.imul, 1) := by decide +kernel
theorem qd_M_part_156 : decode qb_M_part 156 = .ok (.iload_n 2, 1) := by decide +kernel
theorem qd_M_part_157 : decode qb_M_part 157 = .ok (.iadd, 1) := by decide +kernel
theorem qd_M_part_158 : decode qb_M_part 158 = .ok (.iload_n 3, 1) := by decide +kernel
theorem qd_M_part_159 : decode qb_M_part 159 = .ok (.bastore, 1) := by decide +kernel
theorem qd_M_part_160 : decode qb_M_part 160 = .ok (.iinc 2 (-1), 3) := by decide +kernel
theorem qd_M_part_163 : decode qb_M_part 163 = .ok (.goto (-141), 3) := by decide +kernel
theorem qd_M_part_166 : decode qb_M_part 166 = .ok (.iinc 1 (-1), 3) := by decide +kernel
theorem qd_M_part_169 : decode qb_M_part 169 = .ok (.goto (-158), 3) := by decide +kernel
theorem qd_M_part_172 : decode qb_M_part 172 = .ok (.return_, 1) := by decide +kernel
theorem qd_M_isSealed_0 : decode qb_M_isSealed 0 = .ok (.aload_n 0, 1) := by decide +kernel
theorem qd_M_isSealed_1 : decode qb_M_isSealed 1 = .ok (.getfield 7, 3) := by decide +kernel
theorem qd_M_isSealed_4 : decode qb_M_isSealed 4 = .ok (.iload_n 1, 1) := by decide +kernel
theorem qd_M_isSealed_5 : decode qb_M_isSealed 5 = .ok (.iaload, 1) := by decide +kernel
theorem qd_M_isSealed_6 : decode qb_M_isSealed 6 = .ok (.iconst 2, 1) := by decide +kernel
theorem qd_M_isSealed_7 : decode qb_M_isSealed 7 = .ok (.if_icmp .eq 13, 3) := by decide +kernel
theorem qd_M_isSealed_10 : decode qb_M_isSealed 10 = .ok (.aload_n 0, 1) := by decide +kernel
theorem qd_M_isSealed_11 : decode qb_M_isSealed 11 = .ok (.getfield 7, 3) := by decide +kernel
theorem qd_M_isSealed_14 : decode qb_M_isSealed 14 = .ok (.iload_n 1, 1) := by decide +kernel
theorem qd_M_isSealed_15 : decode qb_M_isSealed 15 = .ok (.iaload, 1) := by decide +kernel
theorem qd_M_isSealed_16 : decode qb_M_isSealed 16 = .ok (.iconst 4, 1) := by decide +kernel
theorem qd_M_isSealed_17 : decode qb_M_isSealed 17 = .ok (.if_icmp .ne 7, 3) := by decide +kernel
theorem qd_M_isSealed_20 : decode qb_M_isSealed 20 = .ok (.iconst 1, 1) := by decide +kernel
theorem qd_M_isSealed_21 : decode qb_M_isSealed 21 = .ok (.goto 4, 3) := by decide +kernel
theorem qd_M_isSealed_24 : decode qb_M_isSealed 24 = .ok (.iconst 0, 1) := by decide +kernel
theorem qd_M_isSealed_25 : decode qb_M_isSealed 25 = .ok (.ireturn, 1) := by decide +kernel
theorem qd_M_areHeirsApart_0 : decode qb_M_areHeirsApart 0 = .ok (.iconst 1, 1) := by decide +kernel
theorem qd_M_areHeirsApart_1 : decode qb_M_areHeirsApart 1 = .ok (.istore 4, 2) := by decide +kernel
theorem qd_M_areHeirsApart_3 : decode qb_M_areHeirsApart 3 = .ok (.iload_n 1, 1) := by decide +kernel
theorem qd_M_areHeirsApart_4 : decode qb_M_areHeirsApart 4 = .ok (.iconst 1, 1) := by decide +kernel
theorem qd_M_areHeirsApart_5 : decode qb_M_areHeirsApart 5 = .ok (.iadd, 1) := by decide +kernel
theorem qd_M_areHeirsApart_6 : decode qb_M_areHeirsApart 6 = .ok (.istore 5, 2) := by decide +kernel
theorem qd_M_areHeirsApart_8 : decode qb_M_areHeirsApart 8 = .ok (.iload 5, 2) := by decide +kernel
theorem qd_M_areHeirsApart_10 : decode qb_M_areHeirsApart 10 = .ok (.aload_n 0, 1) := by decide +kernel
theorem qd_M_areHeirsApart_11 : decode qb_M_areHeirsApart 11 = .ok (.getfield 95, 3) := by decide +kernel
theorem qd_M_areHeirsApart_14 : decode qb_M_areHeirsApart 14 = .ok (.if_icmp .ge 68, 3) := by decide +kernel
theorem qd_M_areHeirsApart_17 : decode qb_M_areHeirsApart 17 = .ok (.iload 4, 2) := by decide +kernel
theorem qd_M_areHeirsApart_19 : decode qb_M_areHeirsApart 19 = .ok (.ifCond .eq 54, 3) := by decide +kernel
theorem qd_M_areHeirsApart_22 : decode qb_M_areHeirsApart 22 = .ok (.aload_n 0, 1) := by decide +kernel
theorem qd_M_areHeirsApart_23 : decode qb_M_areHeirsApart 23 = .ok (.iload 5, 2) := by decide +kernel
theorem qd_M_areHeirsApart_25 : decode qb_M_areHeirsApart 25 = .ok (.iload_n 1, 1) := by decide +kernel
theorem qd_M_areHeirsApart_26 : decode qb_M_areHeirsApart 26 = .ok (.invokevirtual 152, 3) := by decide +kernel
theorem qd_M_areHeirsApart_29 : decode qb_M_areHeirsApart 29 = .ok (.ifCond .eq 40, 3) := by decide +kernel
theorem qd_M_areHeirsApart_32 : decode qb_M_areHeirsApart 32 = .ok (.iload_n 3, 1) := by decide +kernel
theorem qd_M_areHeirsApart_33 : decode qb_M_areHeirsApart 33 = .ok (.ifCond .eq 21, 3) := by decide +kernel
theorem qd_M_areHeirsApart_36 : decode qb_M_areHeirsApart 36 = .ok (.aload_n 0, 1) := by decide +kernel
theorem qd_M_areHeirsApart_37 : decode qb_M_areHeirsApart 37 = .ok (.getfield 56, 3) := by decide +kernel
theorem qd_M_areHeirsApart_40 : decode qb_M_areHeirsApart 40 = .ok (.bipush 12, 2) := by decide +kernel
theorem qd_M_areHeirsApart_42 : decode qb_M_areHeirsApart 42 = .ok (.iload 5, 2) := by decide +kernel
theorem qd_M_areHeirsApart_44 : decode qb_M_areHeirsApart 44 = .ok (.imul, 1) := by decide +kernel
theorem qd_M_areHeirsApart_45 : decode qb_M_areHeirsApart 45 = .ok (.iload_n 2, 1) := by decide +kernel
theorem qd_M_areHeirsApart_46 : decode qb_M_areHeirsApart 46 = .ok (.iadd, 1) := by decide +kernel
theorem qd_M_areHeirsApart_47 : decode qb_M_areHeirsApart 47 = .ok (.baload, 1) := by decide +kernel
theorem qd_M_areHeirsApart_48 : decode qb_M_areHeirsApart 48 = .ok (.ifCond .eq 25, 3) := by decide +kernel
theorem qd_M_areHeirsApart_51 : decode qb_M_areHeirsApart 51 = .ok (.goto 18, 3) := by decide +kernel
theorem qd_M_areHeirsApart_54 : decode qb_M_areHeirsApart 54 = .ok (.aload_n 0, 1) := by decide +kernel
theorem qd_M_areHeirsApart_55 : decode qb_M_areHeirsApart 55 = .ok (.getfield 56, 3) := by decide +kernel
theorem qd_M_areHeirsApart_58 : decode qb_M_areHeirsApart 58 = .ok (.bipush 12, 2) := by decide +kernel
theorem qd_M_areHeirsApart_60 : decode qb_M_areHeirsApart 60 = .ok (.iload_n 2, 1) := by decide +kernel
theorem qd_M_areHeirsApart_61 : decode qb_M_areHeirsApart 61 = .ok (.imul, 1) := by decide +kernel
theorem qd_M_areHeirsApart_62 : decode qb_M_areHeirsApart 62 = .ok (.iload 5, 2) := by decide +kernel
theorem qd_M_areHeirsApart_64 : decode qb_M_areHeirsApart 64 = .ok (.iadd, 1) := by decide +kernel
theorem qd_M_areHeirsApart_65 : decode qb_M_areHeirsApart 65 = .ok (.baload, 1) := by decide +kernel
theorem qd_M_areHeirsApart_66 : decode qb_M_areHeirsApart 66 = .ok (.ifCond .eq 7, 3) := by decide +kernel
theorem qd_M_areHeirsApart_69 : decode qb_M_areHeirsApart 69 = .ok (.iconst 1, 1) := by decide +kernel
theorem qd_M_areHeirsApart_70 : decode qb_M_areHeirsApart 70 = .ok (.goto 4, 3) := by decide +kernel
theorem qd_M_areHeirsApart_73 : decode qb_M_areHeirsApart 73 = .ok (.iconst 0, 1) := by decide +kernel
theorem qd_M_areHeirsApart_74 : decode qb_M_areHeirsApart 74 = .ok (.istore 4, 2) := by decide +kernel
theorem qd_M_areHeirsApart_76 : decode qb_M_areHeirsApart 76 = .ok (.iinc 5 1, 3) := by decide +kernel
theorem qd_M_areHeirsApart_79 : decode qb_M_areHeirsApart 79 = .ok (.goto (-71), 3) := by decide +kernel
theorem qd_M_areHeirsApart_82 : decode qb_M_areHeirsApart 82 = .ok (.iload 4, 2) := by decide +kernel
theorem qd_M_areHeirsApart_84 : decode qb_M_areHeirsApart 84 = .ok (.ireturn, 1) := by decide +kernel
theorem qd_M_is_0 : decode qb_M_is 0 = .ok (.aload_n 0, 1) := by decide +kernel
theorem qd_M_is_1 : decode qb_M_is 1 = .ok (.iload_n 1, 1) := by decide +kernel
theorem qd_M_is_2 : decode qb_M_is 2 = .ok (.invokevirtual 225, 3) := by decide +kernel
theorem qd_M_is_5 : decode qb_M_is 5 = .ok (.ifCond .eq 11, 3) := by decide +kernel
theorem qd_M_is_8 : decode qb_M_is 8 = .ok (.aload_n 0, 1) := by decide +kernel
theorem qd_M_is_9 : decode qb_M_is 9 = .ok (.iload_n 2, 1) := by decide +kernel
theorem qd_M_is_10 : decode qb_M_is 10 = .ok (.invokevirtual 225, 3) := by decide +kernel
theorem qd_M_is_13 : decode qb_M_is 13 = .ok (.ifCond .ne 6, 3) := by decide +kernel
theorem qd_M_is_16 : decode qb_M_is 16 = .ok (.bipush (-2), 2) := by decide +kernel
theorem qd_M_is_18 : decode qb_M_is 18 = .ok (.ireturn, 1) := by decide +kernel
theorem qd_M_is_19 : decode qb_M_is 19 = .ok (.aload_n 0, 1) := by decide +kernel
theorem qd_M_is_20 : decode qb_M_is 20 = .ok (.invokevirtual 149, 3) := by decide +kernel
theorem qd_M_is_23 : decode qb_M_is 23 = .ok (.aload_n 0, 1) := by decide +kernel
theorem qd_M_is_24 : decode qb_M_is 24 = .ok (.invokevirtual 106, 3) := by decide +kernel
theorem qd_M_is_27 : decode qb_M_is 27 = .ok (.aload_n 0, 1) := by decide +kernel
theorem qd_M_is_28 : decode qb_M_is 28 = .ok (.iload_n 1, 1) := by decide +kernel
theorem qd_M_is_29 : decode qb_M_is 29 = .ok (.iload_n 2, 1) := by decide +kernel
theorem qd_M_is_30 : decode qb_M_is 30 = .ok (.invokevirtual 228, 3) := by decide +kernel
theorem qd_M_is_33 : decode qb_M_is 33 = .ok (.ifCond .eq 7, 3) := by decide +kernel
theorem qd_M_is_36 : decode qb_M_is 36 = .ok (.iconst 1, 1) := by decide +kernel
theorem qd_M_is_37 : decode qb_M_is 37 = .ok (.goto 17, 3) := by decide +kernel
theorem qd_M_is_40 : decode qb_M_is 40 = .ok (.aload_n 0, 1) := by decide +kernel
theorem qd_M_is_41 : decode qb_M_is 41 = .ok (.iload_n 1, 1) := by decide +kernel
theorem qd_M_is_42 : decode qb_M_is 42 = .ok (.iload_n 2, 1) := by decide +kernel
theorem qd_M_is_43 : decode qb_M_is 43 = .ok (.invokevirtual 231, 3) := by decide +kernel
theorem qd_M_is_46 : decode qb_M_is 46 = .ok (.ifCond .eq 7, 3) := by decide +kernel
theorem qd_M_is_49 : decode qb_M_is 49 = .ok (.iconst 2, 1) := by decide +kernel
theorem qd_M_is_50 : decode qb_M_is 50 = .ok (.goto 4, 3) := by decide +kernel
theorem qd_M_is_53 : decode qb_M_is 53 = .ok (.iconst 0, 1) := by decide +kernel
theorem qd_M_is_54 : decode qb_M_is 54 = .ok (.ireturn, 1) := by decide +kernel
theorem qd_M_isAsked_0 : decode qb_M_isAsked 0 = .ok (.aload_n 0, 1) := by decide +kernel
theorem qd_M_isAsked_1 : decode qb_M_isAsked 1 = .ok (.iload_n 1, 1) := by decide +kernel
theorem qd_M_isAsked_2 : decode qb_M_isAsked 2 = .ok (.invokevirtual 135, 3) := by decide +kernel
theorem qd_M_isAsked_5 : decode qb_M_isAsked 5 = .ok (.ifCond .eq 17, 3) := by decide +kernel
theorem qd_M_isAsked_8 : decode qb_M_isAsked 8 = .ok (.aload_n 0, 1) := by decide +kernel
theorem qd_M_isAsked_9 : decode qb_M_isAsked 9 = .ok (.getfield 28, 3) := by decide +kernel
theorem qd_M_isAsked_12 : decode qb_M_isAsked 12 = .ok (.iload_n 1, 1) := by decide +kernel
theorem qd_M_isAsked_13 : decode qb_M_isAsked 13 = .ok (.iaload, 1) := by decide +kernel
theorem qd_M_isAsked_14 : decode qb_M_isAsked 14 = .ok (.iconst 5, 1) := by decide +kernel
theorem qd_M_isAsked_15 : decode qb_M_isAsked 15 = .ok (.if_icmp .eq 7, 3) := by decide +kernel
theorem qd_M_isAsked_18 : decode qb_M_isAsked 18 = .ok (.iconst 1, 1) := by decide +kernel
theorem qd_M_isAsked_19 : decode qb_M_isAsked 19 = .ok (.goto 4, 3) := by decide +kernel
theorem qd_M_isAsked_22 : decode qb_M_isAsked 22 = .ok (.iconst 0, 1) := by decide +kernel
theorem qd_M_isAsked_23 : decode qb_M_isAsked 23 = .ok (.ireturn, 1) := by decide +kernel
theorem qd_M_isA_0 : decode qb_M_isA 0 = .ok (.aload_n 0, 1) := by decide +kernel
theorem qd_M_isA_1 : decode qb_M_isA 1 = .ok (.iconst 0, 1) := by decide +kernel
theorem qd_M_isA_2 : decode qb_M_isA 2 = .ok (.putfield 190, 3) := by decide +kernel
theorem qd_M_isA_5 : decode qb_M_isA 5 = .ok (.aload_n 0, 1) := by decide +kernel
theorem qd_M_isA_6 : decode qb_M_isA 6 = .ok (.iload_n 1, 1) := by decide +kernel
theorem qd_M_isA_7 : decode qb_M_isA 7 = .ok (.iload_n 2, 1) := by decide +kernel
theorem qd_M_isA_8 : decode qb_M_isA 8 = .ok (.invokevirtual 193, 3) := by decide +kernel
theorem qd_M_isA_11 : decode qb_M_isA 11 = .ok (.iconst 2, 1) := by decide +kernel
theorem qd_M_isA_12 : decode qb_M_isA 12 = .ok (.istore_n 3, 1) := by decide +kernel
theorem qd_M_isA_13 : decode qb_M_isA 13 = .ok (.aload_n 0, 1) := by decide +kernel
theorem qd_M_isA_14 : decode qb_M_isA 14 = .ok (.getfield 190, 3) := by decide +kernel
theorem qd_M_isA_17 : decode qb_M_isA 17 = .ok (.ifCond .le 38, 3) := by decide +kernel
theorem qd_M_isA_20 : decode qb_M_isA 20 = .ok (.aload_n 0, 1) := by decide +kernel
theorem qd_M_isA_21 : decode qb_M_isA 21 = .ok (.getfield 190, 3) := by decide +kernel
theorem qd_M_isA_24 : decode qb_M_isA 24 = .ok (.iconst 1, 1) := by decide +kernel
theorem qd_M_isA_25 : decode qb_M_isA 25 = .ok (.isub, 1) := by decide +kernel
theorem qd_M_isA_26 : decode qb_M_isA 26 = .ok (.istore 4, 2) := by decide +kernel
theorem qd_M_isA_28 : decode qb_M_isA 28 = .ok (.aload_n 0, 1) := by decide +kernel
theorem qd_M_isA_29 : decode qb_M_isA 29 = .ok (.iload 4, 2) := by decide +kernel
theorem qd_M_isA_31 : decode qb_M_isA 31 = .ok (.iload_n 3, 1) := by decide +kernel
theorem qd_M_isA_32 : decode qb_M_isA 32 = .ok (.invokevirtual 197, 3) := by decide +kernel
theorem qd_M_isA_35 : decode qb_M_isA 35 = .ok (.istore 5, 2) := by decide +kernel
theorem qd_M_isA_37 : decode qb_M_isA 37 = .ok (.iload 5, 2) := by decide +kernel
theorem qd_M_isA_39 : decode qb_M_isA 39 = .ok (.istore_n 3, 1) := by decide +kernel
theorem qd_M_isA_40 : decode qb_M_isA 40 = .ok (.iload 5, 2) := by decide +kernel
theorem qd_M_isA_42 : decode qb_M_isA 42 = .ok (.iconst 2, 1) := by decide +kernel
theorem qd_M_isA_43 : decode qb_M_isA 43 = .ok (.if_icmp .eq 9, 3) := by decide +kernel
theorem qd_M_isA_46 : decode qb_M_isA 46 = .ok (.aload_n 0, 1) := by decide +kernel
theorem qd_M_isA_47 : decode qb_M_isA 47 = .ok (.iload 4, 2) := by decide +kernel
theorem qd_M_isA_49 : decode qb_M_isA 49 = .ok (.putfield 190, 3) := by decide +kernel
theorem qd_M_isA_52 : decode qb_M_isA 52 = .ok (.goto (-39), 3) := by decide +kernel
theorem qd_M_isA_55 : decode qb_M_isA 55 = .ok (.iload_n 3, 1) := by decide +kernel
theorem qd_M_isA_56 : decode qb_M_isA 56 = .ok (.iconst 1, 1) := by decide +kernel
theorem qd_M_isA_57 : decode qb_M_isA 57 = .ok (.if_icmp .ne 7, 3) := by decide +kernel
theorem qd_M_isA_60 : decode qb_M_isA 60 = .ok (.iconst 1, 1) := by decide +kernel
theorem qd_M_isA_61 : decode qb_M_isA 61 = .ok (.goto 4, 3) := by decide +kernel
theorem qd_M_isA_64 : decode qb_M_isA 64 = .ok (.iconst 0, 1) := by decide +kernel
theorem qd_M_isA_65 : decode qb_M_isA 65 = .ok (.ireturn, 1) := by decide +kernel
theorem qd_M_ask_0 : decode qb_M_ask 0 = .ok (.aload_n 0, 1) := by decide +kernel
theorem qd_M_ask_1 : decode qb_M_ask 1 = .ok (.getfield 68, 3) := by decide +kernel
theorem qd_M_ask_4 : decode qb_M_ask 4 = .ok (.aload_n 0, 1) := by decide +kernel
theorem qd_M_ask_5 : decode qb_M_ask 5 = .ok (.getfield 190, 3) := by decide +kernel
theorem qd_M_ask_8 : decode qb_M_ask 8 = .ok (.iload_n 1, 1) := by decide +kernel
theorem qd_M_ask_9 : decode qb_M_ask 9 = .ok (.iastore, 1) := by decide +kernel
theorem qd_M_ask_10 : decode qb_M_ask 10 = .ok (.aload_n 0, 1) := by decide +kernel
theorem qd_M_ask_11 : decode qb_M_ask 11 = .ok (.getfield 71, 3) := by decide +kernel
theorem qd_M_ask_14 : decode qb_M_ask 14 = .ok (.aload_n 0, 1) := by decide +kernel
theorem qd_M_ask_15 : decode qb_M_ask 15 = .ok (.getfield 190, 3) := by decide +kernel
theorem qd_M_ask_18 : decode qb_M_ask 18 = .ok (.iload_n 2, 1) := by decide +kernel
theorem qd_M_ask_19 : decode qb_M_ask 19 = .ok (.iastore, 1) := by decide +kernel
theorem qd_M_ask_20 : decode qb_M_ask 20 = .ok (.aload_n 0, 1) := by decide +kernel
theorem qd_M_ask_21 : decode qb_M_ask 21 = .ok (.getfield 74, 3) := by decide +kernel
theorem qd_M_ask_24 : decode qb_M_ask 24 = .ok (.aload_n 0, 1) := by decide +kernel
theorem qd_M_ask_25 : decode qb_M_ask 25 = .ok (.getfield 190, 3) := by decide +kernel
theorem qd_M_ask_28 : decode qb_M_ask 28 = .ok (.iconst 0, 1) := by decide +kernel
theorem qd_M_ask_29 : decode qb_M_ask 29 = .ok (.iastore, 1) := by decide +kernel
theorem qd_M_ask_30 : decode qb_M_ask 30 = .ok (.aload_n 0, 1) := by decide +kernel
theorem qd_M_ask_31 : decode qb_M_ask 31 = .ok (.getfield 77, 3) := by decide +kernel
theorem qd_M_ask_34 : decode qb_M_ask 34 = .ok (.aload_n 0, 1) := by decide +kernel
theorem qd_M_ask_35 : decode qb_M_ask 35 = .ok (.getfield 190, 3) := by decide +kernel
theorem qd_M_ask_38 : decode qb_M_ask 38 = .ok (.iconst 0, 1) := by decide +kernel
theorem qd_M_ask_39 : decode qb_M_ask 39 = .ok (.iastore, 1) := by decide +kernel
theorem qd_M_ask_40 : decode qb_M_ask 40 = .ok (.aload_n 0, 1) := by decide +kernel
theorem qd_M_ask_41 : decode qb_M_ask 41 = .ok (.dup, 1) := by decide +kernel
theorem qd_M_ask_42 : decode qb_M_ask 42 = .ok (.getfield 190, 3) := by decide +kernel
theorem qd_M_ask_45 : decode qb_M_ask 45 = .ok (.iconst 1, 1) := by decide +kernel
theorem qd_M_ask_46 : decode qb_M_ask 46 = .ok (.iadd, 1) := by decide +kernel
theorem qd_M_ask_47 : decode qb_M_ask 47 = .ok (.putfield 190, 3) := by decide +kernel
theorem qd_M_ask_50 : decode qb_M_ask 50 = .ok (.return_, 1) := by decide +kernel
theorem qd_M_step_0 : decode qb_M_step 0 = .ok (.aload_n 0, 1) := by decide +kernel
theorem qd_M_step_1 : decode qb_M_step 1 = .ok (.getfield 68, 3) := by decide +kernel
theorem qd_M_step_4 : decode qb_M_step 4 = .ok (.iload_n 1, 1) := by decide +kernel
theorem qd_M_step_5 : decode qb_M_step 5 = .ok (.iaload, 1) := by decide +kernel
theorem qd_M_step_6 : decode qb_M_step 6 = .ok (.istore_n 3, 1) := by decide +kernel
theorem qd_M_step_7 : decode qb_M_step 7 = .ok (.aload_n 0, 1) := by decide +kernel
theorem qd_M_step_8 : decode qb_M_step 8 = .ok (.getfield 71, 3) := by decide +kernel
theorem qd_M_step_11 : decode qb_M_step 11 = .ok (.iload_n 1, 1) := by decide +kernel
theorem qd_M_step_12 : decode qb_M_step 12 = .ok (.iaload, 1) := by decide +kernel
theorem qd_M_step_13 : decode qb_M_step 13 = .ok (.istore 4, 2) := by decide +kernel
theorem qd_M_step_15 : decode qb_M_step 15 = .ok (.aload_n 0, 1) := by decide +kernel
theorem qd_M_step_16 : decode qb_M_step 16 = .ok (.getfield 74, 3) := by decide +kernel
theorem qd_M_step_19 : decode qb_M_step 19 = .ok (.iload_n 1, 1) := by decide +kernel
theorem qd_M_step_20 : decode qb_M_step 20 = .ok (.iaload, 1) := by decide +kernel
theorem qd_M_step_21 : decode qb_M_step 21 = .ok (.tableswitch 99 0 3 #[31, 69, 79, 89], 31) := by decide +kernel
theorem qd_M_step_52 : decode qb_M_step 52 = .ok (.iload_n 3, 1) := by decide +kernel
theorem qd_M_step_53 : decode qb_M_step 53 = .ok (.iload 4, 2) := by decide +kernel
theorem qd_M_step_55 : decode qb_M_step 55 = .ok (.if_icmp .eq 24, 3) := by decide +kernel
theorem qd_M_step_58 : decode qb_M_step 58 = .ok (.iload_n 3, 1) := by decide +kernel
theorem qd_M_step_59 : decode qb_M_step 59 = .ok (.iconst 2, 1) := by decide +kernel
theorem qd_M_step_60 : decode qb_M_step 60 = .ok (.if_icmp .ne 9, 3) := by decide +kernel
theorem qd_M_step_63 : decode qb_M_step 63 = .ok (.iload 4, 2) := by decide +kernel
theorem qd_M_step_65 : decode qb_M_step 65 = .ok (.iconst 1, 1) := by decide +kernel
theorem qd_M_step_66 : decode qb_M_step 66 = .ok (.if_icmp .ne 13, 3) := by decide +kernel
theorem qd_M_step_69 : decode qb_M_step 69 = .ok (.iload 4, 2) := by decide +kernel
theorem qd_M_step_71 : decode qb_M_step 71 = .ok (.ifCond .ne 10, 3) := by decide +kernel
theorem qd_M_step_74 : decode qb_M_step 74 = .ok (.iload_n 3, 1) := by decide +kernel
theorem qd_M_step_75 : decode qb_M_step 75 = .ok (.iconst 1, 1) := by decide +kernel
theorem qd_M_step_76 : decode qb_M_step 76 = .ok (.if_icmp .eq 5, 3) := by decide +kernel
theorem qd_M_step_79 : decode qb_M_step 79 = .ok (.iconst 1, 1) := by decide +kernel
theorem qd_M_step_80 : decode qb_M_step 80 = .ok (.ireturn, 1) := by decide +kernel
theorem qd_M_step_81 : decode qb_M_step 81 = .ok (.aload_n 0, 1) := by decide +kernel
theorem qd_M_step_82 : decode qb_M_step 82 = .ok (.getfield 74, 3) := by decide +kernel
theorem qd_M_step_85 : decode qb_M_step 85 = .ok (.iload_n 1, 1) := by decide +kernel
theorem qd_M_step_86 : decode qb_M_step 86 = .ok (.iconst 1, 1) := by decide +kernel
theorem qd_M_step_87 : decode qb_M_step 87 = .ok (.iastore, 1) := by decide +kernel
theorem qd_M_step_88 : decode qb_M_step 88 = .ok (.iconst 2, 1) := by decide +kernel
theorem qd_M_step_89 : decode qb_M_step 89 = .ok (.ireturn, 1) := by decide +kernel
theorem qd_M_step_90 : decode qb_M_step 90 = .ok (.aload_n 0, 1) := by decide +kernel
theorem qd_M_step_91 : decode qb_M_step 91 = .ok (.iload_n 1, 1) := by decide +kernel
theorem qd_M_step_92 : decode qb_M_step 92 = .ok (.iload_n 3, 1) := by decide +kernel
theorem qd_M_step_93 : decode qb_M_step 93 = .ok (.iload 4, 2) := by decide +kernel
theorem qd_M_step_95 : decode qb_M_step 95 = .ok (.iload_n 2, 1) := by decide +kernel
theorem qd_M_step_96 : decode qb_M_step 96 = .ok (.invokevirtual 200, 3) := by decide +kernel
theorem qd_M_step_99 : decode qb_M_step 99 = .ok (.ireturn, 1) := by decide +kernel
theorem qd_M_step_100 : decode qb_M_step 100 = .ok (.aload_n 0, 1) := by decide +kernel
theorem qd_M_step_101 : decode qb_M_step 101 = .ok (.iload_n 1, 1) := by decide +kernel
theorem qd_M_step_102 : decode qb_M_step 102 = .ok (.iload_n 3, 1) := by decide +kernel
theorem qd_M_step_103 : decode qb_M_step 103 = .ok (.iload 4, 2) := by decide +kernel
theorem qd_M_step_105 : decode qb_M_step 105 = .ok (.iload_n 2, 1) := by decide +kernel
theorem qd_M_step_106 : decode qb_M_step 106 = .ok (.invokevirtual 203, 3) := by decide +kernel
theorem qd_M_step_109 : decode qb_M_step 109 = .ok (.ireturn, 1) := by decide +kernel
theorem qd_M_step_110 : decode qb_M_step 110 = .ok (.aload_n 0, 1) := by decide +kernel
theorem qd_M_step_111 : decode qb_M_step 111 = .ok (.iload_n 1, 1) := by decide +kernel
theorem qd_M_step_112 : decode qb_M_step 112 = .ok (.iload_n 3, 1) := by decide +kernel
theorem qd_M_step_113 : decode qb_M_step 113 = .ok (.iload 4, 2) := by decide +kernel
theorem qd_M_step_115 : decode qb_M_step 115 = .ok (.iload_n 2, 1) := by decide +kernel
theorem qd_M_step_116 : decode qb_M_step 116 = .ok (.invokevirtual 206, 3) := by decide +kernel
theorem qd_M_step_119 : decode qb_M_step 119 = .ok (.ireturn, 1) := by decide +kernel
theorem qd_M_step_120 : decode qb_M_step 120 = .ok (.aload_n 0, 1) := by decide +kernel
theorem qd_M_step_121 : decode qb_M_step 121 = .ok (.iload_n 1, 1) := by decide +kernel
theorem qd_M_step_122 : decode qb_M_step 122 = .ok (.iload 4, 2) := by decide +kernel
theorem qd_M_step_124 : decode qb_M_step 124 = .ok (.iload_n 2, 1) := by decide +kernel
theorem qd_M_step_125 : decode qb_M_step 125 = .ok (.invokevirtual 209, 3) := by decide +kernel
theorem qd_M_step_128 : decode qb_M_step 128 = .ok (.ireturn, 1) := by decide +kernel
theorem qd_M_stepBounds_0 : decode qb_M_stepBounds 0 = .ok (.iload 4, 2) := by decide +kernel
theorem qd_M_stepBounds_2 : decode qb_M_stepBounds 2 = .ok (.iconst 1, 1) := by decide +kernel
theorem qd_M_stepBounds_3 : decode qb_M_stepBounds 3 = .ok (.if_icmp .ne 14, 3) := by decide +kernel
theorem qd_M_stepBounds_6 : decode qb_M_stepBounds 6 = .ok (.aload_n 0, 1) := by decide +kernel
theorem qd_M_stepBounds_7 : decode qb_M_stepBounds 7 = .ok (.getfield 77, 3) := by decide +kernel
theorem qd_M_stepBounds_10 : decode qb_M_stepBounds 10 = .ok (.iload_n 1, 1) := by decide +kernel
theorem qd_M_stepBounds_11 : decode qb_M_stepBounds 11 = .ok (.iaload, 1) := by decide +kernel
theorem qd_M_stepBounds_12 : decode qb_M_stepBounds 12 = .ok (.ifCond .le 5, 3) := by decide +kernel
theorem qd_M_stepBounds_15 : decode qb_M_stepBounds 15 = .ok (.iconst 1, 1) := by decide +kernel
theorem qd_M_stepBounds_16 : decode qb_M_stepBounds 16 = .ok (.ireturn, 1) := by decide +kernel
theorem qd_M_stepBounds_17 : decode qb_M_stepBounds 17 = .ok (.aload_n 0, 1) := by decide +kernel
theorem qd_M_stepBounds_18 : decode qb_M_stepBounds 18 = .ok (.getfield 28, 3) := by decide +kernel
theorem qd_M_stepBounds_21 : decode qb_M_stepBounds 21 = .ok (.iload_n 2, 1) := by decide +kernel
theorem qd_M_stepBounds_22 : decode qb_M_stepBounds 22 = .ok (.iaload, 1) := by decide +kernel
theorem qd_M_stepBounds_23 : decode qb_M_stepBounds 23 = .ok (.iconst 3, 1) := by decide +kernel
theorem qd_M_stepBounds_24 : decode qb_M_stepBounds 24 = .ok (.if_icmp .ne 49, 3) := by decide +kernel
theorem qd_M_stepBounds_27 : decode qb_M_stepBounds 27 = .ok (.aload_n 0, 1) := by decide +kernel
theorem qd_M_stepBounds_28 : decode qb_M_stepBounds 28 = .ok (.getfield 77, 3) := by decide +kernel
theorem qd_M_stepBounds_31 : decode qb_M_stepBounds 31 = .ok (.iload_n 1, 1) := by decide +kernel
theorem qd_M_stepBounds_32 : decode qb_M_stepBounds 32 = .ok (.iaload, 1) := by decide +kernel
theorem qd_M_stepBounds_33 : decode qb_M_stepBounds 33 = .ok (.aload_n 0, 1) := by decide +kernel
theorem qd_M_stepBounds_34 : decode qb_M_stepBounds 34 = .ok (.iload_n 2, 1) := by decide +kernel
theorem qd_M_stepBounds_35 : decode qb_M_stepBounds 35 = .ok (.invokevirtual 213, 3) := by decide +kernel
theorem qd_M_stepBounds_38 : decode qb_M_stepBounds 38 = .ok (.if_icmp .ge 35, 3) := by decide +kernel
theorem qd_M_stepBounds_41 : decode qb_M_stepBounds 41 = .ok (.aload_n 0, 1) := by decide +kernel
theorem qd_M_stepBounds_42 : decode qb_M_stepBounds 42 = .ok (.iload_n 2, 1) := by decide +kernel
theorem qd_M_stepBounds_43 : decode qb_M_stepBounds 43 = .ok (.aload_n 0, 1) := by decide +kernel
