theorem qd_M_may_343 : decode qb_M_may 343 = .ok (.goto (-292), 3) := by decide +kernel
theorem qd_M_may_346 : decode qb_M_may 346 = .ok (.iconst 1, 1) := by decide +kernel
theorem qd_M_may_347 : decode qb_M_may 347 = .ok (.ireturn, 1) := by decide +kernel
theorem qd_M_mayClasses_0 : decode qb_M_mayClasses 0 = .ok (.aload_n 0, 1) := by decide +kernel
theorem qd_M_mayClasses_1 : decode qb_M_mayClasses 1 = .ok (.getfield 56, 3) := by decide +kernel
theorem qd_M_mayClasses_4 : decode qb_M_mayClasses 4 = .ok (.bipush 12, 2) := by decide +kernel
theorem qd_M_mayClasses_6 : decode qb_M_mayClasses 6 = .ok (.aload_n 0, 1) := by decide +kernel
theorem qd_M_mayClasses_7 : decode qb_M_mayClasses 7 = .ok (.getfield 31, 3) := by decide +kernel
theorem qd_M_mayClasses_10 : decode qb_M_mayClasses 10 = .ok (.iload_n 1, 1) := by decide +kernel
theorem qd_M_mayClasses_11 : decode qb_M_mayClasses 11 = .ok (.iaload, 1) := by decide +kernel
theorem qd_M_mayClasses_12 : decode qb_M_mayClasses 12 = .ok (.imul, 1) := by decide +kernel
theorem qd_M_mayClasses_13 : decode qb_M_mayClasses 13 = .ok (.aload_n 0, 1) := by decide +kernel
theorem qd_M_mayClasses_14 : decode qb_M_mayClasses 14 = .ok (.getfield 31, 3) := by decide +kernel
theorem qd_M_mayClasses_17 : decode qb_M_mayClasses 17 = .ok (.iload_n 2, 1) := by decide +kernel
theorem qd_M_mayClasses_18 : decode qb_M_mayClasses 18 = .ok (.iaload, 1) := by decide +kernel
theorem qd_M_mayClasses_19 : decode qb_M_mayClasses 19 = .ok (.iadd, 1) := by decide +kernel
theorem qd_M_mayClasses_20 : decode qb_M_mayClasses 20 = .ok (.baload, 1) := by decide +kernel
theorem qd_M_mayClasses_21 : decode qb_M_mayClasses 21 = .ok (.ifCond .eq 5, 3) := by decide +kernel
theorem qd_M_mayClasses_24 : decode qb_M_mayClasses 24 = .ok (.iconst 0, 1) := by decide +kernel
theorem qd_M_mayClasses_25 : decode qb_M_mayClasses 25 = .ok (.ireturn, 1) := by decide +kernel
theorem qd_M_mayClasses_26 : decode qb_M_mayClasses 26 = .ok (.iconst 1, 1) := by decide +kernel
theorem qd_M_mayClasses_27 : decode qb_M_mayClasses 27 = .ok (.istore_n 3, 1) := by decide +kernel
theorem qd_M_mayClasses_28 : decode qb_M_mayClasses 28 = .ok (.iload_n 3, 1) := by decide +kernel
theorem qd_M_mayClasses_29 : decode qb_M_mayClasses 29 = .ok (.aload_n 0, 1) := by decide +kernel
theorem qd_M_mayClasses_30 : decode qb_M_mayClasses 30 = .ok (.getfield 95, 3) := by decide +kernel
theorem qd_M_mayClasses_33 : decode qb_M_mayClasses 33 = .ok (.if_icmp .ge 149, 3) := by decide +kernel
theorem qd_M_mayClasses_36 : decode qb_M_mayClasses 36 = .ok (.aload_n 0, 1) := by decide +kernel
theorem qd_M_mayClasses_37 : decode qb_M_mayClasses 37 = .ok (.getfield 13, 3) := by decide +kernel
theorem qd_M_mayClasses_40 : decode qb_M_mayClasses 40 = .ok (.iload_n 3, 1) := by decide +kernel
theorem qd_M_mayClasses_41 : decode qb_M_mayClasses 41 = .ok (.iaload, 1) := by decide +kernel
theorem qd_M_mayClasses_42 : decode qb_M_mayClasses 42 = .ok (.ifCond .le 134, 3) := by decide +kernel
theorem qd_M_mayClasses_45 : decode qb_M_mayClasses 45 = .ok (.aload_n 0, 1) := by decide +kernel
theorem qd_M_mayClasses_46 : decode qb_M_mayClasses 46 = .ok (.getfield 52, 3) := by decide +kernel
theorem qd_M_mayClasses_49 : decode qb_M_mayClasses 49 = .ok (.bipush 12, 2) := by decide +kernel
theorem qd_M_mayClasses_51 : decode qb_M_mayClasses 51 = .ok (.aload_n 0, 1) := by decide +kernel
theorem qd_M_mayClasses_52 : decode qb_M_mayClasses 52 = .ok (.getfield 31, 3) := by decide +kernel
theorem qd_M_mayClasses_55 : decode qb_M_mayClasses 55 = .ok (.iload_n 1, 1) := by decide +kernel
theorem qd_M_mayClasses_56 : decode qb_M_mayClasses 56 = .ok (.iaload, 1) := by decide +kernel
theorem qd_M_mayClasses_57 : decode qb_M_mayClasses 57 = .ok (.imul, 1) := by decide +kernel
theorem qd_M_mayClasses_58 : decode qb_M_mayClasses 58 = .ok (.iload_n 3, 1) := by decide +kernel
theorem qd_M_mayClasses_59 : decode qb_M_mayClasses 59 = .ok (.iadd, 1) := by decide +kernel
theorem qd_M_mayClasses_60 : decode qb_M_mayClasses 60 = .ok (.baload, 1) := by decide +kernel
theorem qd_M_mayClasses_61 : decode qb_M_mayClasses 61 = .ok (.ifCond .eq 115, 3) := by decide +kernel
theorem qd_M_mayClasses_64 : decode qb_M_mayClasses 64 = .ok (.aload_n 0, 1) := by decide +kernel
theorem qd_M_mayClasses_65 : decode qb_M_mayClasses 65 = .ok (.getfield 52, 3) := by decide +kernel
theorem qd_M_mayClasses_68 : decode qb_M_mayClasses 68 = .ok (.bipush 12, 2) := by decide +kernel
theorem qd_M_mayClasses_70 : decode qb_M_mayClasses 70 = .ok (.aload_n 0, 1) := by decide +kernel
theorem qd_M_mayClasses_71 : decode qb_M_mayClasses 71 = .ok (.getfield 31, 3) := by decide +kernel
theorem qd_M_mayClasses_74 : decode qb_M_mayClasses 74 = .ok (.iload_n 2, 1) := by decide +kernel
theorem qd_M_mayClasses_75 : decode qb_M_mayClasses 75 = .ok (.iaload, 1) := by decide +kernel
theorem qd_M_mayClasses_76 : decode qb_M_mayClasses 76 = .ok (.imul, 1) := by decide +kernel
theorem qd_M_mayClasses_77 : decode qb_M_mayClasses 77 = .ok (.iload_n 3, 1) := by decide +kernel
theorem qd_M_mayClasses_78 : decode qb_M_mayClasses 78 = .ok (.iadd, 1) := by decide +kernel
theorem qd_M_mayClasses_79 : decode qb_M_mayClasses 79 = .ok (.baload, 1) := by decide +kernel
theorem qd_M_mayClasses_80 : decode qb_M_mayClasses 80 = .ok (.ifCond .eq 96, 3) := by decide +kernel
theorem qd_M_mayClasses_83 : decode qb_M_mayClasses 83 = .ok (.aload_n 0, 1) := by decide +kernel
theorem qd_M_mayClasses_84 : decode qb_M_mayClasses 84 = .ok (.iload_n 1, 1) := by decide +kernel
theorem qd_M_mayClasses_85 : decode qb_M_mayClasses 85 = .ok (.iload_n 3, 1) := by decide +kernel
theorem qd_M_mayClasses_86 : decode qb_M_mayClasses 86 = .ok (.invokevirtual 222, 3) := by decide +kernel
theorem qd_M_mayClasses_89 : decode qb_M_mayClasses 89 = .ok (.istore 4, 2) := by decide +kernel
theorem qd_M_mayClasses_91 : decode qb_M_mayClasses 91 = .ok (.aload_n 0, 1) := by decide +kernel
theorem qd_M_mayClasses_92 : decode qb_M_mayClasses 92 = .ok (.iload_n 2, 1) := by decide +kernel
theorem qd_M_mayClasses_93 : decode qb_M_mayClasses 93 = .ok (.iload_n 3, 1) := by decide +kernel
theorem qd_M_mayClasses_94 : decode qb_M_mayClasses 94 = .ok (.invokevirtual 222, 3) := by decide +kernel
theorem qd_M_mayClasses_97 : decode qb_M_mayClasses 97 = .ok (.istore 5, 2) := by decide +kernel
theorem qd_M_mayClasses_99 : decode qb_M_mayClasses 99 = .ok (.aload_n 0, 1) := by decide +kernel
theorem qd_M_mayClasses_100 : decode qb_M_mayClasses 100 = .ok (.getfield 28, 3) := by decide +kernel
theorem qd_M_mayClasses_103 : decode qb_M_mayClasses 103 = .ok (.iload 4, 2) := by decide +kernel
theorem qd_M_mayClasses_105 : decode qb_M_mayClasses 105 = .ok (.iaload, 1) := by decide +kernel
theorem qd_M_mayClasses_106 : decode qb_M_mayClasses 106 = .ok (.iconst 2, 1) := by decide +kernel
theorem qd_M_mayClasses_107 : decode qb_M_mayClasses 107 = .ok (.if_icmp .ne 69, 3) := by decide +kernel
theorem qd_M_mayClasses_110 : decode qb_M_mayClasses 110 = .ok (.aload_n 0, 1) := by decide +kernel
theorem qd_M_mayClasses_111 : decode qb_M_mayClasses 111 = .ok (.getfield 28, 3) := by decide +kernel
theorem qd_M_mayClasses_114 : decode qb_M_mayClasses 114 = .ok (.iload 5, 2) := by decide +kernel
theorem qd_M_mayClasses_116 : decode qb_M_mayClasses 116 = .ok (.iaload, 1) := by decide +kernel
theorem qd_M_mayClasses_117 : decode qb_M_mayClasses 117 = .ok (.iconst 2, 1) := by decide +kernel
theorem qd_M_mayClasses_118 : decode qb_M_mayClasses 118 = .ok (.if_icmp .ne 58, 3) := by decide +kernel
theorem qd_M_mayClasses_121 : decode qb_M_mayClasses 121 = .ok (.aload_n 0, 1) := by decide +kernel
theorem qd_M_mayClasses_122 : decode qb_M_mayClasses 122 = .ok (.aload_n 0, 1) := by decide +kernel
theorem qd_M_mayClasses_123 : decode qb_M_mayClasses 123 = .ok (.getfield 34, 3) := by decide +kernel
theorem qd_M_mayClasses_126 : decode qb_M_mayClasses 126 = .ok (.iload 4, 2) := by decide +kernel
theorem qd_M_mayClasses_128 : decode qb_M_mayClasses 128 = .ok (.iaload, 1) := by decide +kernel
theorem qd_M_mayClasses_129 : decode qb_M_mayClasses 129 = .ok (.aload_n 0, 1) := by decide +kernel
theorem qd_M_mayClasses_130 : decode qb_M_mayClasses 130 = .ok (.getfield 34, 3) := by decide +kernel
theorem qd_M_mayClasses_133 : decode qb_M_mayClasses 133 = .ok (.iload 5, 2) := by decide +kernel
theorem qd_M_mayClasses_135 : decode qb_M_mayClasses 135 = .ok (.iaload, 1) := by decide +kernel
theorem qd_M_mayClasses_136 : decode qb_M_mayClasses 136 = .ok (.invokevirtual 237, 3) := by decide +kernel
theorem qd_M_mayClasses_139 : decode qb_M_mayClasses 139 = .ok (.ifCond .ne 35, 3) := by decide +kernel
theorem qd_M_mayClasses_142 : decode qb_M_mayClasses 142 = .ok (.aload_n 0, 1) := by decide +kernel
theorem qd_M_mayClasses_143 : decode qb_M_mayClasses 143 = .ok (.getfield 37, 3) := by decide +kernel
theorem qd_M_mayClasses_146 : decode qb_M_mayClasses 146 = .ok (.iload 4, 2) := by decide +kernel
theorem qd_M_mayClasses_148 : decode qb_M_mayClasses 148 = .ok (.iaload, 1) := by decide +kernel
theorem qd_M_mayClasses_149 : decode qb_M_mayClasses 149 = .ok (.iconst (-1), 1) := by decide +kernel
theorem qd_M_mayClasses_150 : decode qb_M_mayClasses 150 = .ok (.if_icmp .eq 26, 3) := by decide +kernel
theorem qd_M_mayClasses_153 : decode qb_M_mayClasses 153 = .ok (.aload_n 0, 1) := by decide +kernel
theorem qd_M_mayClasses_154 : decode qb_M_mayClasses 154 = .ok (.aload_n 0, 1) := by decide +kernel
theorem qd_M_mayClasses_155 : decode qb_M_mayClasses 155 = .ok (.getfield 37, 3) := by decide +kernel
theorem qd_M_mayClasses_158 : decode qb_M_mayClasses 158 = .ok (.iload 4, 2) := by decide +kernel
theorem qd_M_mayClasses_160 : decode qb_M_mayClasses 160 = .ok (.iaload, 1) := by decide +kernel
theorem qd_M_mayClasses_161 : decode qb_M_mayClasses 161 = .ok (.aload_n 0, 1) := by decide +kernel
theorem qd_M_mayClasses_162 : decode qb_M_mayClasses 162 = .ok (.getfield 37, 3) := by decide +kernel
theorem qd_M_mayClasses_165 : decode qb_M_mayClasses 165 = .ok (.iload 5, 2) := by decide +kernel
theorem qd_M_mayClasses_167 : decode qb_M_mayClasses 167 = .ok (.iaload, 1) := by decide +kernel
theorem qd_M_mayClasses_168 : decode qb_M_mayClasses 168 = .ok (.invokevirtual 237, 3) := by decide +kernel
theorem qd_M_mayClasses_171 : decode qb_M_mayClasses 171 = .ok (.ifCond .eq 5, 3) := by decide +kernel
theorem qd_M_mayClasses_174 : decode qb_M_mayClasses 174 = .ok (.iconst 0, 1) := by decide +kernel
theorem qd_M_mayClasses_175 : decode qb_M_mayClasses 175 = .ok (.ireturn, 1) := by decide +kernel
theorem qd_M_mayClasses_176 : decode qb_M_mayClasses 176 = .ok (.iinc 3 1, 3) := by decide +kernel
theorem qd_M_mayClasses_179 : decode qb_M_mayClasses 179 = .ok (.goto (-151), 3) := by decide +kernel
theorem qd_M_mayClasses_182 : decode qb_M_mayClasses 182 = .ok (.iconst 1, 1) := by decide +kernel
theorem qd_M_mayClasses_183 : decode qb_M_mayClasses 183 = .ok (.ireturn, 1) := by decide +kernel
theorem qd_M_differ_0 : decode qb_M_differ 0 = .ok (.iload_n 1, 1) := by decide +kernel
theorem qd_M_differ_1 : decode qb_M_differ 1 = .ok (.iload_n 2, 1) := by decide +kernel
theorem qd_M_differ_2 : decode qb_M_differ 2 = .ok (.if_icmp .ne 5, 3) := by decide +kernel
theorem qd_M_differ_5 : decode qb_M_differ 5 = .ok (.iconst 0, 1) := by decide +kernel
theorem qd_M_differ_6 : decode qb_M_differ 6 = .ok (.ireturn, 1) := by decide +kernel
theorem qd_M_differ_7 : decode qb_M_differ 7 = .ok (.aload_n 0, 1) := by decide +kernel
theorem qd_M_differ_8 : decode qb_M_differ 8 = .ok (.getfield 28, 3) := by decide +kernel
theorem qd_M_differ_11 : decode qb_M_differ 11 = .ok (.iload_n 1, 1) := by decide +kernel
theorem qd_M_differ_12 : decode qb_M_differ 12 = .ok (.iaload, 1) := by decide +kernel
theorem qd_M_differ_13 : decode qb_M_differ 13 = .ok (.iconst 3, 1) := by decide +kernel
theorem qd_M_differ_14 : decode qb_M_differ 14 = .ok (.if_icmp .eq 15, 3) := by decide +kernel
theorem qd_M_differ_17 : decode qb_M_differ 17 = .ok (.aload_n 0, 1) := by decide +kernel
theorem qd_M_differ_18 : decode qb_M_differ 18 = .ok (.getfield 28, 3) := by decide +kernel
theorem qd_M_differ_21 : decode qb_M_differ 21 = .ok (.iload_n 2, 1) := by decide +kernel
theorem qd_M_differ_22 : decode qb_M_differ 22 = .ok (.iaload, 1) := by decide +kernel
theorem qd_M_differ_23 : decode qb_M_differ 23 = .ok (.iconst 3, 1) := by decide +kernel
theorem qd_M_differ_24 : decode qb_M_differ 24 = .ok (.if_icmp .eq 5, 3) := by decide +kernel
theorem qd_M_differ_27 : decode qb_M_differ 27 = .ok (.iconst 1, 1) := by decide +kernel
theorem qd_M_differ_28 : decode qb_M_differ 28 = .ok (.ireturn, 1) := by decide +kernel
theorem qd_M_differ_29 : decode qb_M_differ 29 = .ok (.aload_n 0, 1) := by decide +kernel
theorem qd_M_differ_30 : decode qb_M_differ 30 = .ok (.getfield 28, 3) := by decide +kernel
theorem qd_M_differ_33 : decode qb_M_differ 33 = .ok (.iload_n 1, 1) := by decide +kernel
theorem qd_M_differ_34 : decode qb_M_differ 34 = .ok (.iaload, 1) := by decide +kernel
theorem qd_M_differ_35 : decode qb_M_differ 35 = .ok (.iconst 3, 1) := by decide +kernel
theorem qd_M_differ_36 : decode qb_M_differ 36 = .ok (.if_icmp .ne 11, 3) := by decide +kernel
theorem qd_M_differ_39 : decode qb_M_differ 39 = .ok (.aload_n 0, 1) := by decide +kernel
theorem qd_M_differ_40 : decode qb_M_differ 40 = .ok (.iload_n 1, 1) := by decide +kernel
theorem qd_M_differ_41 : decode qb_M_differ 41 = .ok (.invokevirtual 213, 3) := by decide +kernel
theorem qd_M_differ_44 : decode qb_M_differ 44 = .ok (.goto 4, 3) := by decide +kernel
theorem qd_M_differ_47 : decode qb_M_differ 47 = .ok (.iconst 1, 1) := by decide +kernel
theorem qd_M_differ_48 : decode qb_M_differ 48 = .ok (.istore_n 3, 1) := by decide +kernel
theorem qd_M_differ_49 : decode qb_M_differ 49 = .ok (.aload_n 0, 1) := by decide +kernel
theorem qd_M_differ_50 : decode qb_M_differ 50 = .ok (.getfield 28, 3) := by decide +kernel
theorem qd_M_differ_53 : decode qb_M_differ 53 = .ok (.iload_n 2, 1) := by decide +kernel
theorem qd_M_differ_54 : decode qb_M_differ 54 = .ok (.iaload, 1) := by decide +kernel
theorem qd_M_differ_55 : decode qb_M_differ 55 = .ok (.iconst 3, 1) := by decide +kernel
theorem qd_M_differ_56 : decode qb_M_differ 56 = .ok (.if_icmp .ne 11, 3) := by decide +kernel
theorem qd_M_differ_59 : decode qb_M_differ 59 = .ok (.aload_n 0, 1) := by decide +kernel
theorem qd_M_differ_60 : decode qb_M_differ 60 = .ok (.iload_n 2, 1) := by decide +kernel
theorem qd_M_differ_61 : decode qb_M_differ 61 = .ok (.invokevirtual 213, 3) := by decide +kernel
theorem qd_M_differ_64 : decode qb_M_differ 64 = .ok (.goto 4, 3) := by decide +kernel
theorem qd_M_differ_67 : decode qb_M_differ 67 = .ok (.iconst 1, 1) := by decide +kernel
theorem qd_M_differ_68 : decode qb_M_differ 68 = .ok (.istore 4, 2) := by decide +kernel
theorem qd_M_differ_70 : decode qb_M_differ 70 = .ok (.iconst 0, 1) := by decide +kernel
theorem qd_M_differ_71 : decode qb_M_differ 71 = .ok (.istore 5, 2) := by decide +kernel
theorem qd_M_differ_73 : decode qb_M_differ 73 = .ok (.iload 5, 2) := by decide +kernel
theorem qd_M_differ_75 : decode qb_M_differ 75 = .ok (.iload_n 3, 1) := by decide +kernel
theorem qd_M_differ_76 : decode qb_M_differ 76 = .ok (.if_icmp .ge 103, 3) := by decide +kernel
theorem qd_M_differ_79 : decode qb_M_differ 79 = .ok (.iconst 0, 1) := by decide +kernel
theorem qd_M_differ_80 : decode qb_M_differ 80 = .ok (.istore 6, 2) := by decide +kernel
theorem qd_M_differ_82 : decode qb_M_differ 82 = .ok (.iload 6, 2) := by decide +kernel
theorem qd_M_differ_84 : decode qb_M_differ 84 = .ok (.iload 4, 2) := by decide +kernel
theorem qd_M_differ_86 : decode qb_M_differ 86 = .ok (.if_icmp .ge 87, 3) := by decide +kernel
theorem qd_M_differ_89 : decode qb_M_differ 89 = .ok (.aload_n 0, 1) := by decide +kernel
theorem qd_M_differ_90 : decode qb_M_differ 90 = .ok (.aload_n 0, 1) := by decide +kernel
theorem qd_M_differ_91 : decode qb_M_differ 91 = .ok (.getfield 28, 3) := by decide +kernel
theorem qd_M_differ_94 : decode qb_M_differ 94 = .ok (.iload_n 1, 1) := by decide +kernel
theorem qd_M_differ_95 : decode qb_M_differ 95 = .ok (.iaload, 1) := by decide +kernel
theorem qd_M_differ_96 : decode qb_M_differ 96 = .ok (.iconst 3, 1) := by decide +kernel
theorem qd_M_differ_97 : decode qb_M_differ 97 = .ok (.if_icmp .ne 13, 3) := by decide +kernel
theorem qd_M_differ_100 : decode qb_M_differ 100 = .ok (.aload_n 0, 1) := by decide +kernel
theorem qd_M_differ_101 : decode qb_M_differ 101 = .ok (.iload_n 1, 1) := by decide +kernel
theorem qd_M_differ_102 : decode qb_M_differ 102 = .ok (.iload 5, 2) := by decide +kernel
theorem qd_M_differ_104 : decode qb_M_differ 104 = .ok (.invokevirtual 187, 3) := by decide +kernel
theorem qd_M_differ_107 : decode qb_M_differ 107 = .ok (.goto 4, 3) := by decide +kernel
theorem qd_M_differ_110 : decode qb_M_differ 110 = .ok (.iload_n 1, 1) := by decide +kernel
theorem qd_M_differ_111 : decode qb_M_differ 111 = .ok (.invokevirtual 240, 3) := by decide +kernel
theorem qd_M_differ_114 : decode qb_M_differ 114 = .ok (.istore 7, 2) := by decide +kernel
theorem qd_M_differ_116 : decode qb_M_differ 116 = .ok (.aload_n 0, 1) := by decide +kernel
theorem qd_M_differ_117 : decode qb_M_differ 117 = .ok (.aload_n 0, 1) := by decide +kernel
theorem qd_M_differ_118 : decode qb_M_differ 118 = .ok (.getfield 28, 3) := by decide +kernel
theorem qd_M_differ_121 : decode qb_M_differ 121 = .ok (.iload_n 2, 1) := by decide +kernel
theorem qd_M_differ_122 : decode qb_M_differ 122 = .ok (.iaload, 1) := by decide +kernel
theorem qd_M_differ_123 : decode qb_M_differ 123 = .ok (.iconst 3, 1) := by decide +kernel
theorem qd_M_differ_124 : decode qb_M_differ 124 = .ok (.if_icmp .ne 13, 3) := by decide +kernel
theorem qd_M_differ_127 : decode qb_M_differ 127 = .ok (.aload_n 0, 1) := by decide +kernel
theorem qd_M_differ_128 : decode qb_M_differ 128 = .ok (.iload_n 2, 1) := by decide +kernel
theorem qd_M_differ_129 : decode qb_M_differ 129 = .ok (.iload 6, 2) := by decide +kernel
theorem qd_M_differ_131 : decode qb_M_differ 131 = .ok (.invokevirtual 187, 3) := by decide +kernel
theorem qd_M_differ_134 : decode qb_M_differ 134 = .ok (.goto 4, 3) := by decide +kernel
theorem qd_M_differ_137 : decode qb_M_differ 137 = .ok (.iload_n 2, 1) := by decide +kernel
theorem qd_M_differ_138 : decode qb_M_differ 138 = .ok (.invokevirtual 240, 3) := by decide +kernel
theorem qd_M_differ_141 : decode qb_M_differ 141 = .ok (.istore 8, 2) := by decide +kernel
theorem qd_M_differ_143 : decode qb_M_differ 143 = .ok (.aload_n 0, 1) := by decide +kernel
theorem qd_M_differ_144 : decode qb_M_differ 144 = .ok (.iload 7, 2) := by decide +kernel
theorem qd_M_differ_146 : decode qb_M_differ 146 = .ok (.iload 8, 2) := by decide +kernel
theorem qd_M_differ_148 : decode qb_M_differ 148 = .ok (.invokevirtual 228, 3) := by decide +kernel
theorem qd_M_differ_151 : decode qb_M_differ 151 = .ok (.ifCond .ne 16, 3) := by decide +kernel
theorem qd_M_differ_154 : decode qb_M_differ 154 = .ok (.aload_n 0, 1) := by decide +kernel
theorem qd_M_differ_155 : decode qb_M_differ 155 = .ok (.iload 8, 2) := by decide +kernel
theorem qd_M_differ_157 : decode qb_M_differ 157 = .ok (.iload 7, 2) := by decide +kernel
theorem qd_M_differ_159 : decode qb_M_differ 159 = .ok (.invokevirtual 228, 3) := by decide +kernel
theorem qd_M_differ_162 : decode qb_M_differ 162 = .ok (.ifCond .ne 5, 3) := by decide +kernel
theorem qd_M_differ_165 : decode qb_M_differ 165 = .ok (.iconst 1, 1) := by decide +kernel
theorem qd_M_differ_166 : decode qb_M_differ 166 = .ok (.ireturn, 1) := by decide +kernel
theorem qd_M_differ_167 : decode qb_M_differ 167 = .ok (.iinc 6 1, 3) := by decide +kernel
theorem qd_M_differ_170 : decode qb_M_differ 170 = .ok (.goto (-88), 3) := by decide +kernel
theorem qd_M_differ_173 : decode qb_M_differ 173 = .ok (.iinc 5 1, 3) := by decide +kernel
theorem qd_M_differ_176 : decode qb_M_differ 176 = .ok (.goto (-103), 3) := by decide +kernel
theorem qd_M_differ_179 : decode qb_M_differ 179 = .ok (.iconst 0, 1) := by decide +kernel
theorem qd_M_differ_180 : decode qb_M_differ 180 = .ok (.ireturn, 1) := by decide +kernel
theorem qd_M_erase_0 : decode qb_M_erase 0 = .ok (.iconst 0, 1) := by decide +kernel
theorem qd_M_erase_1 : decode qb_M_erase 1 = .ok (.istore_n 2, 1) := by decide +kernel
theorem qd_M_erase_2 : decode qb_M_erase 2 = .ok (.iload_n 1, 1) := by decide +kernel
theorem qd_M_erase_3 : decode qb_M_erase 3 = .ok (.istore_n 3, 1) := by decide +kernel
theorem qd_M_erase_4 : decode qb_M_erase 4 = .ok (.aload_n 0, 1) := by decide +kernel
theorem qd_M_erase_5 : decode qb_M_erase 5 = .ok (.getfield 28, 3) := by decide +kernel
theorem qd_M_erase_8 : decode qb_M_erase 8 = .ok (.iload_n 3, 1) := by decide +kernel
theorem qd_M_erase_9 : decode qb_M_erase 9 = .ok (.iaload, 1) := by decide +kernel
theorem qd_M_erase_10 : decode qb_M_erase 10 = .ok (.iconst 4, 1) := by decide +kernel
theorem qd_M_erase_11 : decode qb_M_erase 11 = .ok (.if_icmp .eq 13, 3) := by decide +kernel
theorem qd_M_erase_14 : decode qb_M_erase 14 = .ok (.aload_n 0, 1) := by decide +kernel
theorem qd_M_erase_15 : decode qb_M_erase 15 = .ok (.getfield 28, 3) := by decide +kernel
theorem qd_M_erase_18 : decode qb_M_erase 18 = .ok (.iload_n 3, 1) := by decide +kernel
theorem qd_M_erase_19 : decode qb_M_erase 19 = .ok (.iaload, 1) := by decide +kernel
theorem qd_M_erase_20 : decode qb_M_erase 20 = .ok (.iconst 3, 1) := by decide +kernel
theorem qd_M_erase_21 : decode qb_M_erase 21 = .ok (.if_icmp .ne 50, 3) := by decide +kernel
theorem qd_M_erase_24 : decode qb_M_erase 24 = .ok (.iload_n 2, 1) := by decide +kernel
theorem qd_M_erase_25 : decode qb_M_erase 25 = .ok (.aload_n 0, 1) := by decide +kernel
theorem qd_M_erase_26 : decode qb_M_erase 26 = .ok (.getfield 28, 3) := by decide +kernel
theorem qd_M_erase_29 : decode qb_M_erase 29 = .ok (.iload_n 3, 1) := by decide +kernel
theorem qd_M_erase_30 : decode qb_M_erase 30 = .ok (.iaload, 1) := by decide +kernel
theorem qd_M_erase_31 : decode qb_M_erase 31 = .ok (.iconst 4, 1) := by decide +kernel
theorem qd_M_erase_32 : decode qb_M_erase 32 = .ok (.if_icmp .ne 7, 3) := by decide +kernel
theorem qd_M_erase_35 : decode qb_M_erase 35 = .ok (.iconst 1, 1) := by decide +kernel
theorem qd_M_erase_36 : decode qb_M_erase 36 = .ok (.goto 4, 3) := by decide +kernel
theorem qd_M_erase_39 : decode qb_M_erase 39 = .ok (.iconst 0, 1) := by decide +kernel
theorem qd_M_erase_40 : decode qb_M_erase 40 = .ok (.iadd, 1) := by decide +kernel
theorem qd_M_erase_41 : decode qb_M_erase 41 = .ok (.istore_n 2, 1) := by decide +kernel
theorem qd_M_erase_42 : decode qb_M_erase 42 = .ok (.aload_n 0, 1) := by decide +kernel
theorem qd_M_erase_43 : decode qb_M_erase 43 = .ok (.getfield 28, 3) := by decide +kernel
theorem qd_M_erase_46 : decode qb_M_erase 46 = .ok (.iload_n 3, 1) := by decide +kernel
theorem qd_M_erase_47 : decode qb_M_erase 47 = .ok (.iaload, 1) := by decide +kernel
theorem qd_M_erase_48 : decode qb_M_erase 48 = .ok (.iconst 4, 1) := by decide +kernel
theorem qd_M_erase_49 : decode qb_M_erase 49 = .ok (.if_icmp .ne 12, 3) := by decide +kernel
theorem qd_M_erase_52 : decode qb_M_erase 52 = .ok (.aload_n 0, 1) := by decide +kernel
theorem qd_M_erase_53 : decode qb_M_erase 53 = .ok (.getfield 34, 3) := by decide +kernel
theorem qd_M_erase_56 : decode qb_M_erase 56 = .ok (.iload_n 3, 1) := by decide +kernel
theorem qd_M_erase_57 : decode qb_M_erase 57 = .ok (.iaload, 1) := by decide +kernel
theorem qd_M_erase_58 : decode qb_M_erase 58 = .ok (.goto 9, 3) := by decide +kernel
theorem qd_M_erase_61 : decode qb_M_erase 61 = .ok (.aload_n 0, 1) := by decide +kernel
theorem qd_M_erase_62 : decode qb_M_erase 62 = .ok (.iload_n 3, 1) := by decide +kernel
theorem qd_M_erase_63 : decode qb_M_erase 63 = .ok (.iconst 0, 1) := by decide +kernel
theorem qd_M_erase_64 : decode qb_M_erase 64 = .ok (.invokevirtual 187, 3) := by decide +kernel
theorem qd_M_erase_67 : decode qb_M_erase 67 = .ok (.istore_n 3, 1) := by decide +kernel
theorem qd_M_erase_68 : decode qb_M_erase 68 = .ok (.goto (-64), 3) := by decide +kernel
theorem qd_M_erase_71 : decode qb_M_erase 71 = .ok (.aload_n 0, 1) := by decide +kernel
theorem qd_M_erase_72 : decode qb_M_erase 72 = .ok (.getfield 28, 3) := by decide +kernel
theorem qd_M_erase_75 : decode qb_M_erase 75 = .ok (.iload_n 3, 1) := by decide +kernel
theorem qd_M_erase_76 : decode qb_M_erase 76 = .ok (.iaload, 1) := by decide +kernel
theorem qd_M_erase_77 : decode qb_M_erase 77 = .ok (.iconst 2, 1) := by decide +kernel
theorem qd_M_erase_78 : decode qb_M_erase 78 = .ok (.if_icmp .ne 16, 3) := by decide +kernel
theorem qd_M_erase_81 : decode qb_M_erase 81 = .ok (.aload_n 0, 1) := by decide +kernel
theorem qd_M_erase_82 : decode qb_M_erase 82 = .ok (.aload_n 0, 1) := by decide +kernel
theorem qd_M_erase_83 : decode qb_M_erase 83 = .ok (.getfield 31, 3) := by decide +kernel
theorem qd_M_erase_86 : decode qb_M_erase 86 = .ok (.iload_n 3, 1) := by decide +kernel
theorem qd_M_erase_87 : decode qb_M_erase 87 = .ok (.iaload, 1) := by decide +kernel
theorem qd_M_erase_88 : decode qb_M_erase 88 = .ok (.invokevirtual 178, 3) := by decide +kernel
theorem qd_M_erase_91 : decode qb_M_erase 91 = .ok (.goto 4, 3) := by decide +kernel
theorem qd_M_erase_94 : decode qb_M_erase 94 = .ok (.iload_n 3, 1) := by decide +kernel
theorem qd_M_erase_95 : decode qb_M_erase 95 = .ok (.istore_n 3, 1) := by decide +kernel
theorem qd_M_erase_96 : decode qb_M_erase 96 = .ok (.iconst 0, 1) := by decide +kernel
theorem qd_M_erase_97 : decode qb_M_erase 97 = .ok (.istore 4, 2) := by decide +kernel
theorem qd_M_erase_99 : decode qb_M_erase 99 = .ok (.iload 4, 2) := by decide +kernel
theorem qd_M_erase_101 : decode qb_M_erase 101 = .ok (.iload_n 2, 1) := by decide +kernel
theorem qd_M_erase_102 : decode qb_M_erase 102 = .ok (.if_icmp .ge 18, 3) := by decide +kernel
theorem qd_M_erase_105 : decode qb_M_erase 105 = .ok (.aload_n 0, 1) := by decide +kernel
theorem qd_M_erase_106 : decode qb_M_erase 106 = .ok (.iconst 4, 1) := by decide +kernel
theorem qd_M_erase_107 : decode qb_M_erase 107 = .ok (.iconst (-1), 1) := by decide +kernel
theorem qd_M_erase_108 : decode qb_M_erase 108 = .ok (.iload_n 3, 1) := by decide +kernel
theorem qd_M_erase_109 : decode qb_M_erase 109 = .ok (.iconst (-1), 1) := by decide +kernel
theorem qd_M_erase_110 : decode qb_M_erase 110 = .ok (.invokevirtual 169, 3) := by decide +kernel
theorem qd_M_erase_113 : decode qb_M_erase 113 = .ok (.istore_n 3, 1) := by decide +kernel
theorem qd_M_erase_114 : decode qb_M_erase 114 = .ok (.iinc 4 1, 3) := by decide +kernel
theorem qd_M_erase_117 : decode qb_M_erase 117 = .ok (.goto (-18), 3) := by decide +kernel
theorem qd_M_erase_120 : decode qb_M_erase 120 = .ok (.iload_n 3, 1) := by decide +kernel
theorem qd_M_erase_121 : decode qb_M_erase 121 = .ok (.ireturn, 1) := by decide +kernel
theorem qd_M_as_0 : decode qb_M_as 0 = .ok (.aload_n 0, 1) := by decide +kernel
theorem qd_M_as_1 : decode qb_M_as 1 = .ok (.iload_n 1, 1) := by decide +kernel
theorem qd_M_as_2 : decode qb_M_as 2 = .ok (.invokevirtual 135, 3) := by decide +kernel
theorem qd_M_as_5 : decode qb_M_as 5 = .ok (.ifCond .eq 29, 3) := by decide +kernel
theorem qd_M_as_8 : decode qb_M_as 8 = .ok (.aload_n 0, 1) := by decide +kernel
theorem qd_M_as_9 : decode qb_M_as 9 = .ok (.iload_n 2, 1) := by decide +kernel
theorem qd_M_as_10 : decode qb_M_as 10 = .ok (.invokevirtual 127, 3) := by decide +kernel
theorem qd_M_as_13 : decode qb_M_as 13 = .ok (.ifCond .eq 21, 3) := by decide +kernel
theorem qd_M_as_16 : decode qb_M_as 16 = .ok (.aload_n 0, 1) := by decide +kernel
theorem qd_M_as_17 : decode qb_M_as 17 = .ok (.getfield 28, 3) := by decide +kernel
theorem qd_M_as_20 : decode qb_M_as 20 = .ok (.iload_n 1, 1) := by decide +kernel
theorem qd_M_as_21 : decode qb_M_as 21 = .ok (.iaload, 1) := by decide +kernel
theorem qd_M_as_22 : decode qb_M_as 22 = .ok (.iconst 5, 1) := by decide +kernel
theorem qd_M_as_23 : decode qb_M_as 23 = .ok (.if_icmp .eq 11, 3) := by decide +kernel
theorem qd_M_as_26 : decode qb_M_as 26 = .ok (.aload_n 0, 1) := by decide +kernel
theorem qd_M_as_27 : decode qb_M_as 27 = .ok (.iload_n 1, 1) := by decide +kernel
theorem qd_M_as_28 : decode qb_M_as 28 = .ok (.invokevirtual 172, 3) := by decide +kernel
theorem qd_M_as_31 : decode qb_M_as 31 = .ok (.ifCond .eq 6, 3) := by decide +kernel
theorem qd_M_as_34 : decode qb_M_as 34 = .ok (.bipush (-2), 2) := by decide +kernel
theorem qd_M_as_36 : decode qb_M_as 36 = .ok (.ireturn, 1) := by decide +kernel
theorem qd_M_as_37 : decode qb_M_as 37 = .ok (.aload_n 0, 1) := by decide +kernel
theorem qd_M_as_38 : decode qb_M_as 38 = .ok (.invokevirtual 149, 3) := by decide +kernel
theorem qd_M_as_41 : decode qb_M_as 41 = .ok (.aload_n 0, 1) := by decide +kernel
theorem qd_M_as_42 : decode qb_M_as 42 = .ok (.invokevirtual 106, 3) := by decide +kernel
theorem qd_M_as_45 : decode qb_M_as 45 = .ok (.aload_n 0, 1) := by decide +kernel
theorem qd_M_as_46 : decode qb_M_as 46 = .ok (.iload_n 1, 1) := by decide +kernel
theorem qd_M_as_47 : decode qb_M_as 47 = .ok (.invokevirtual 219, 3) := by decide +kernel
theorem qd_M_as_50 : decode qb_M_as 50 = .ok (.ifCond .eq 22, 3) := by decide +kernel
theorem qd_M_as_53 : decode qb_M_as 53 = .ok (.aload_n 0, 1) := by decide +kernel
theorem qd_M_as_54 : decode qb_M_as 54 = .ok (.getfield 52, 3) := by decide +kernel
theorem qd_M_as_57 : decode qb_M_as 57 = .ok (.bipush 12, 2) := by decide +kernel
theorem qd_M_as_59 : decode qb_M_as 59 = .ok (.aload_n 0, 1) := by decide +kernel
theorem qd_M_as_60 : decode qb_M_as 60 = .ok (.getfield 31, 3) := by decide +kernel
theorem qd_M_as_63 : decode qb_M_as 63 = .ok (.iload_n 1, 1) := by decide +kernel
theorem qd_M_as_64 : decode qb_M_as 64 = .ok (.iaload, 1) := by decide +kernel
theorem qd_M_as_65 : decode qb_M_as 65 = .ok (.imul, 1) := by decide +kernel
theorem qd_M_as_66 : decode qb_M_as 66 = .ok (.iload_n 2, 1) := by decide +kernel
theorem qd_M_as_67 : decode qb_M_as 67 = .ok (.iadd, 1) := by decide +kernel
theorem qd_M_as_68 : decode qb_M_as 68 = .ok (.baload, 1) := by decide +kernel
theorem qd_M_as_69 : decode qb_M_as 69 = .ok (.ifCond .ne 5, 3) := by decide +kernel
theorem qd_M_as_72 : decode qb_M_as 72 = .ok (.iconst (-1), 1) := by decide +kernel
theorem qd_M_as_73 : decode qb_M_as 73 = .ok (.ireturn, 1) := by decide +kernel
theorem qd_M_as_74 : decode qb_M_as 74 = .ok (.aload_n 0, 1) := by decide +kernel
theorem qd_M_as_75 : decode qb_M_as 75 = .ok (.aload_n 0, 1) := by decide +kernel
theorem qd_M_as_76 : decode qb_M_as 76 = .ok (.iload_n 1, 1) := by decide +kernel
theorem qd_M_as_77 : decode qb_M_as 77 = .ok (.iload_n 2, 1) := by decide +kernel
theorem qd_M_as_78 : decode qb_M_as 78 = .ok (.invokevirtual 222, 3) := by decide +kernel
theorem qd_M_as_81 : decode qb_M_as 81 = .ok (.invokevirtual 243, 3) := by decide +kernel
theorem qd_M_as_84 : decode qb_M_as 84 = .ok (.ireturn, 1) := by decide +kernel
theorem qd_M_thereAs_0 : decode qb_M_thereAs 0 = .ok (.iload_n 1, 1) := by decide +kernel
theorem qd_M_thereAs_1 : decode qb_M_thereAs 1 = .ok (.sipush 150, 3) := by decide +kernel
theorem qd_M_thereAs_4 : decode qb_M_thereAs 4 = .ok (.if_icmp .ge 7, 3) := by decide +kernel
theorem qd_M_thereAs_7 : decode qb_M_thereAs 7 = .ok (.iload_n 1, 1) := by decide +kernel
theorem qd_M_thereAs_8 : decode qb_M_thereAs 8 = .ok (.goto 5, 3) := by decide +kernel
theorem qd_M_thereAs_11 : decode qb_M_thereAs 11 = .ok (.bipush (-3), 2) := by decide +kernel
theorem qd_M_thereAs_13 : decode qb_M_thereAs 13 = .ok (.ireturn, 1) := by decide +kernel
theorem qd_M_erased_0 : decode qb_M_erased 0 = .ok (.aload_n 0, 1) := by decide +kernel
theorem qd_M_erased_1 : decode qb_M_erased 1 = .ok (.iload_n 1, 1) := by decide +kernel
theorem qd_M_erased_2 : decode qb_M_erased 2 = .ok (.invokevirtual 135, 3) := by decide +kernel
theorem qd_M_erased_5 : decode qb_M_erased 5 = .ok (.ifCond .eq 13, 3) := by decide +kernel
theorem qd_M_erased_8 : decode qb_M_erased 8 = .ok (.aload_n 0, 1) := by decide +kernel
theorem qd_M_erased_9 : decode qb_M_erased 9 = .ok (.getfield 28, 3) := by decide +kernel
theorem qd_M_erased_12 : decode qb_M_erased 12 = .ok (.iload_n 1, 1) := by decide +kernel
theorem qd_M_erased_13 : decode qb_M_erased 13 = .ok (.iaload, 1) := by decide +kernel
theorem qd_M_erased_14 : decode qb_M_erased 14 = .ok (.iconst 5, 1) := by decide +kernel
theorem qd_M_erased_15 : decode qb_M_erased 15 = .ok (.if_icmp .lt 6, 3) := by decide +kernel
theorem qd_M_erased_18 : decode qb_M_erased 18 = .ok (.bipush (-2), 2) := by decide +kernel
theorem qd_M_erased_20 : decode qb_M_erased 20 = .ok (.ireturn, 1) := by decide +kernel
theorem qd_M_erased_21 : decode qb_M_erased 21 = .ok (.aload_n 0, 1) := by decide +kernel
theorem qd_M_erased_22 : decode qb_M_erased 22 = .ok (.invokevirtual 149, 3) := by decide +kernel
theorem qd_M_erased_25 : decode qb_M_erased 25 = .ok (.aload_n 0, 1) := by decide +kernel
theorem qd_M_erased_26 : decode qb_M_erased 26 = .ok (.invokevirtual 106, 3) := by decide +kernel
theorem qd_M_erased_29 : decode qb_M_erased 29 = .ok (.aload_n 0, 1) := by decide +kernel
theorem qd_M_erased_30 : decode qb_M_erased 30 = .ok (.aload_n 0, 1) := by decide +kernel
theorem qd_M_erased_31 : decode qb_M_erased 31 = .ok (.iload_n 1, 1) := by decide +kernel
theorem qd_M_erased_32 : decode qb_M_erased 32 = .ok (.invokevirtual 240, 3) := by decide +kernel
theorem qd_M_erased_35 : decode qb_M_erased 35 = .ok (.invokevirtual 243, 3) := by decide +kernel
theorem qd_M_erased_38 : decode qb_M_erased 38 = .ok (.ireturn, 1) := by decide +kernel
theorem qd_M_good_0 : decode qb_M_good 0 = .ok (.aload_n 0, 1) := by decide +kernel
theorem qd_M_good_1 : decode qb_M_good 1 = .ok (.iload_n 1, 1) := by decide +kernel
theorem qd_M_good_2 : decode qb_M_good 2 = .ok (.invokevirtual 135, 3) := by decide +kernel
theorem qd_M_good_5 : decode qb_M_good 5 = .ok (.ifCond .eq 13, 3) := by decide +kernel
theorem qd_M_good_8 : decode qb_M_good 8 = .ok (.aload_n 0, 1) := by decide +kernel
theorem qd_M_good_9 : decode qb_M_good 9 = .ok (.getfield 28, 3) := by decide +kernel
theorem qd_M_good_12 : decode qb_M_good 12 = .ok (.iload_n 1, 1) := by decide +kernel
theorem qd_M_good_13 : decode qb_M_good 13 = .ok (.iaload, 1) := by decide +kernel
theorem qd_M_good_14 : decode qb_M_good 14 = .ok (.iconst 2, 1) := by decide +kernel
theorem qd_M_good_15 : decode qb_M_good 15 = .ok (.if_icmp .eq 6, 3) := by decide +kernel
theorem qd_M_good_18 : decode qb_M_good 18 = .ok (.bipush (-2), 2) := by decide +kernel
theorem qd_M_good_20 : decode qb_M_good 20 = .ok (.ireturn, 1) := by decide +kernel
theorem qd_M_good_21 : decode qb_M_good 21 = .ok (.aload_n 0, 1) := by decide +kernel
theorem qd_M_good_22 : decode qb_M_good 22 = .ok (.invokevirtual 149, 3) := by decide +kernel
theorem qd_M_good_25 : decode qb_M_good 25 = .ok (.aload_n 0, 1) := by decide +kernel
theorem qd_M_good_26 : decode qb_M_good 26 = .ok (.invokevirtual 106, 3) := by decide +kernel
theorem qd_M_good_29 : decode qb_M_good 29 = .ok (.aload_n 0, 1) := by decide +kernel
theorem qd_M_good_30 : decode qb_M_good 30 = .ok (.iload_n 1, 1) := by decide +kernel
theorem qd_M_good_31 : decode qb_M_good 31 = .ok (.invokevirtual 181, 3) := by decide +kernel
theorem qd_M_good_34 : decode qb_M_good 34 = .ok (.istore_n 2, 1) := by decide +kernel
theorem qd_M_good_35 : decode qb_M_good 35 = .ok (.aload_n 0, 1) := by decide +kernel
theorem qd_M_good_36 : decode qb_M_good 36 = .ok (.getfield 31, 3) := by decide +kernel
theorem qd_M_good_39 : decode qb_M_good 39 = .ok (.iload_n 2, 1) := by decide +kernel
theorem qd_M_good_40 : decode qb_M_good 40 = .ok (.iaload, 1) := by decide +kernel
theorem qd_M_good_41 : decode qb_M_good 41 = .ok (.istore_n 3, 1) := by decide +kernel
theorem qd_M_good_42 : decode qb_M_good 42 = .ok (.iconst 0, 1) := by decide +kernel
theorem qd_M_good_43 : decode qb_M_good 43 = .ok (.istore 4, 2) := by decide +kernel
theorem qd_M_good_45 : decode qb_M_good 45 = .ok (.iload 4, 2) := by decide +kernel
theorem qd_M_good_47 : decode qb_M_good 47 = .ok (.aload_n 0, 1) := by decide +kernel
theorem qd_M_good_48 : decode qb_M_good 48 = .ok (.getfield 13, 3) := by decide +kernel
theorem qd_M_good_51 : decode qb_M_good 51 = .ok (.iload_n 3, 1) := by decide +kernel
theorem qd_M_good_52 : decode qb_M_good 52 = .ok (.iaload, 1) := by decide +kernel
theorem qd_M_good_53 : decode qb_M_good 53 = .ok (.if_icmp .ge 111, 3) := by decide +kernel
theorem qd_M_good_56 : decode qb_M_good 56 = .ok (.iload 4, 2) := by decide +kernel
theorem qd_M_good_58 : decode qb_M_good 58 = .ok (.ifCond .ne 12, 3) := by decide +kernel
theorem qd_M_good_61 : decode qb_M_good 61 = .ok (.aload_n 0, 1) := by decide +kernel
theorem qd_M_good_62 : decode qb_M_good 62 = .ok (.getfield 34, 3) := by decide +kernel
theorem qd_M_good_65 : decode qb_M_good 65 = .ok (.iload_n 1, 1) := by decide +kernel
theorem qd_M_good_66 : decode qb_M_good 66 = .ok (.iaload, 1) := by decide +kernel
theorem qd_M_good_67 : decode qb_M_good 67 = .ok (.goto 9, 3) := by decide +kernel
theorem qd_M_good_70 : decode qb_M_good 70 = .ok (.aload_n 0, 1) := by decide +kernel
theorem qd_M_good_71 : decode qb_M_good 71 = .ok (.getfield 37, 3) := by decide +kernel
theorem qd_M_good_74 : decode qb_M_good 74 = .ok (.iload_n 1, 1) := by decide +kernel
theorem qd_M_good_75 : decode qb_M_good 75 = .ok (.iaload, 1) := by decide +kernel
theorem qd_M_good_76 : decode qb_M_good 76 = .ok (.istore 5, 2) := by decide +kernel
theorem qd_M_good_78 : decode qb_M_good 78 = .ok (.iconst 0, 1) := by decide +kernel
theorem qd_M_good_79 : decode qb_M_good 79 = .ok (.istore 6, 2) := by decide +kernel
theorem qd_M_good_81 : decode qb_M_good 81 = .ok (.iload 6, 2) := by decide +kernel
theorem qd_M_good_83 : decode qb_M_good 83 = .ok (.aload_n 0, 1) := by decide +kernel
theorem qd_M_good_84 : decode qb_M_good 84 = .ok (.getfield 25, 3) := by decide +kernel
theorem qd_M_good_87 : decode qb_M_good 87 = .ok (.iconst 2, 1) := by decide +kernel
theorem qd_M_good_88 : decode qb_M_good 88 = .ok (.iload_n 3, 1) := by decide +kernel
theorem qd_M_good_89 : decode qb_M_good 89 = .ok (.imul, 1) := by decide +kernel
theorem qd_M_good_90 : decode qb_M_good 90 = .ok (.iload 4, 2) := by decide +kernel
theorem qd_M_good_92 : decode qb_M_good 92 = .ok (.iadd, 1) := by decide +kernel
theorem qd_M_good_93 : decode qb_M_good 93 = .ok (.iaload, 1) := by decide +kernel
theorem qd_M_good_94 : decode qb_M_good 94 = .ok (.if_icmp .ge 64, 3) := by decide +kernel
theorem qd_M_good_97 : decode qb_M_good 97 = .ok (.aload_n 0, 1) := by decide +kernel
theorem qd_M_good_98 : decode qb_M_good 98 = .ok (.getfield 28, 3) := by decide +kernel
theorem qd_M_good_101 : decode qb_M_good 101 = .ok (.iload 5, 2) := by decide +kernel
theorem qd_M_good_103 : decode qb_M_good 103 = .ok (.iaload, 1) := by decide +kernel
theorem qd_M_good_104 : decode qb_M_good 104 = .ok (.iconst 5, 1) := by decide +kernel
theorem qd_M_good_105 : decode qb_M_good 105 = .ok (.if_icmp .eq 53, 3) := by decide +kernel
theorem qd_M_good_108 : decode qb_M_good 108 = .ok (.aload_n 0, 1) := by decide +kernel
theorem qd_M_good_109 : decode qb_M_good 109 = .ok (.iload 5, 2) := by decide +kernel
theorem qd_M_good_111 : decode qb_M_good 111 = .ok (.aload_n 0, 1) := by decide +kernel
theorem qd_M_good_112 : decode qb_M_good 112 = .ok (.aload_n 0, 1) := by decide +kernel
theorem qd_M_good_113 : decode qb_M_good 113 = .ok (.getfield 22, 3) := by decide +kernel
theorem qd_M_good_116 : decode qb_M_good 116 = .ok (.iconst 2, 1) := by decide +kernel
theorem qd_M_good_117 : decode qb_M_good 117 = .ok (.iconst 2, 1) := by decide +kernel
theorem qd_M_good_118 : decode qb_M_good 118 = .ok (.iload_n 3, 1) := by decide +kernel
theorem qd_M_good_119 : decode qb_M_good 119 = .ok (.imul, 1) := by decide +kernel
theorem qd_M_good_120 : decode qb_M_good 120 = .ok (.iload 4, 2) := by decide +kernel
theorem qd_M_good_122 : decode qb_M_good 122 = .ok (.iadd, 1) := by decide +kernel
theorem qd_M_good_123 : decode qb_M_good 123 = .ok (.imul, 1) := by decide +kernel
theorem qd_M_good_124 : decode qb_M_good 124 = .ok (.iload 6, 2) := by decide +kernel
theorem qd_M_good_126 : decode qb_M_good 126 = .ok (.iadd, 1) := by decide +kernel
theorem qd_M_good_127 : decode qb_M_good 127 = .ok (.iaload, 1) := by decide +kernel
theorem qd_M_good_128 : decode qb_M_good 128 = .ok (.iload_n 3, 1) := by decide +kernel
theorem qd_M_good_129 : decode qb_M_good 129 = .ok (.aload_n 0, 1) := by decide +kernel
theorem qd_M_good_130 : decode qb_M_good 130 = .ok (.getfield 34, 3) := by decide +kernel
theorem qd_M_good_133 : decode qb_M_good 133 = .ok (.iload_n 2, 1) := by decide +kernel
theorem qd_M_good_134 : decode qb_M_good 134 = .ok (.iaload, 1) := by decide +kernel
theorem qd_M_good_135 : decode qb_M_good 135 = .ok (.aload_n 0, 1) := by decide +kernel
theorem qd_M_good_136 : decode qb_M_good 136 = .ok (.getfield 37, 3) := by decide +kernel
theorem qd_M_good_139 : decode qb_M_good 139 = .ok (.iload_n 2, 1) := by decide +kernel
theorem qd_M_good_140 : decode qb_M_good 140 = .ok (.iaload, 1) := by decide +kernel
theorem qd_M_good_141 : decode qb_M_good 141 = .ok (.invokevirtual 175, 3) := by decide +kernel
theorem qd_M_good_144 : decode qb_M_good 144 = .ok (.invokevirtual 228, 3) := by decide +kernel
theorem qd_M_good_147 : decode qb_M_good 147 = .ok (.ifCond .ne 5, 3) := by decide +kernel
theorem qd_M_good_150 : decode qb_M_good 150 = .ok (.iconst 0, 1) := by decide +kernel
theorem qd_M_good_151 : decode qb_M_good 151 = .ok (.ireturn, 1) := by decide +kernel
theorem qd_M_good_152 : decode qb_M_good 152 = .ok (.iinc 6 1, 3) := by decide +kernel
theorem qd_M_good_155 : decode qb_M_good 155 = .ok (.goto (-74), 3) := by decide +kernel
theorem qd_M_good_158 : decode qb_M_good 158 = .ok (.iinc 4 1, 3) := by decide +kernel
theorem qd_M_good_161 : decode qb_M_good 161 = .ok (.goto (-116), 3) := by decide +kernel
theorem qd_M_good_164 : decode qb_M_good 164 = .ok (.iconst 1, 1) := by decide +kernel
theorem qd_M_good_165 : decode qb_M_good 165 = .ok (.ireturn, 1) := by decide +kernel
theorem qd_M_inherit_0 : decode qb_M_inherit 0 = .ok (.aload_n 0, 1) := by decide +kernel
theorem qd_M_inherit_1 : decode qb_M_inherit 1 = .ok (.iload_n 1, 1) := by decide +kernel
theorem qd_M_inherit_2 : decode qb_M_inherit 2 = .ok (.invokevirtual 127, 3) := by decide +kernel
theorem qd_M_inherit_5 : decode qb_M_inherit 5 = .ok (.ifCond .eq 19, 3) := by decide +kernel
theorem qd_M_inherit_8 : decode qb_M_inherit 8 = .ok (.aload_n 0, 1) := by decide +kernel
theorem qd_M_inherit_9 : decode qb_M_inherit 9 = .ok (.iload_n 2, 1) := by decide +kernel
theorem qd_M_inherit_10 : decode qb_M_inherit 10 = .ok (.invokevirtual 135, 3) := by decide +kernel
theorem qd_M_inherit_13 : decode qb_M_inherit 13 = .ok (.ifCond .eq 11, 3) := by decide +kernel
theorem qd_M_inherit_16 : decode qb_M_inherit 16 = .ok (.aload_n 0, 1) := by decide +kernel
theorem qd_M_inherit_17 : decode qb_M_inherit 17 = .ok (.iload_n 2, 1) := by decide +kernel
theorem qd_M_inherit_18 : decode qb_M_inherit 18 = .ok (.invokevirtual 219, 3) := by decide +kernel
theorem qd_M_inherit_21 : decode qb_M_inherit 21 = .ok (.ifCond .ne 6, 3) := by decide +kernel
theorem qd_M_inherit_24 : decode qb_M_inherit 24 = .ok (.bipush (-2), 2) := by decide +kernel
theorem qd_M_inherit_26 : decode qb_M_inherit 26 = .ok (.ireturn, 1) := by decide +kernel
theorem qd_M_inherit_27 : decode qb_M_inherit 27 = .ok (.aload_n 0, 1) := by decide +kernel
theorem qd_M_inherit_28 : decode qb_M_inherit 28 = .ok (.getfield 31, 3) := by decide +kernel
theorem qd_M_inherit_31 : decode qb_M_inherit 31 = .ok (.iload_n 2, 1) := by decide +kernel
theorem qd_M_inherit_32 : decode qb_M_inherit 32 = .ok (.iaload, 1) := by decide +kernel
theorem qd_M_inherit_33 : decode qb_M_inherit 33 = .ok (.istore_n 3, 1) := by decide +kernel
theorem qd_M_inherit_34 : decode qb_M_inherit 34 = .ok (.aload_n 0, 1) := by decide +kernel
theorem qd_M_inherit_35 : decode qb_M_inherit 35 = .ok (.getfield 7, 3) := by decide +kernel
theorem qd_M_inherit_38 : decode qb_M_inherit 38 = .ok (.iload_n 3, 1) := by decide +kernel
theorem qd_M_inherit_39 : decode qb_M_inherit 39 = .ok (.iaload, 1) := by decide +kernel
theorem qd_M_inherit_40 : decode qb_M_inherit 40 = .ok (.iconst 2, 1) := by decide +kernel
theorem qd_M_inherit_41 : decode qb_M_inherit 41 = .ok (.if_icmp .le 7, 3) := by decide +kernel
theorem qd_M_inherit_44 : decode qb_M_inherit 44 = .ok (.iconst 1, 1) := by decide +kernel
theorem qd_M_inherit_45 : decode qb_M_inherit 45 = .ok (.goto 4, 3) := by decide +kernel
theorem qd_M_inherit_48 : decode qb_M_inherit 48 = .ok (.iconst 0, 1) := by decide +kernel
theorem qd_M_inherit_49 : decode qb_M_inherit 49 = .ok (.istore 4, 2) := by decide +kernel
theorem qd_M_inherit_51 : decode qb_M_inherit 51 = .ok (.iload_n 3, 1) := by decide +kernel
theorem qd_M_inherit_52 : decode qb_M_inherit 52 = .ok (.ifCond .eq 42, 3) := by decide +kernel
theorem qd_M_inherit_55 : decode qb_M_inherit 55 = .ok (.iload_n 3, 1) := by decide +kernel
theorem qd_M_inherit_56 : decode qb_M_inherit 56 = .ok (.iload_n 1, 1) := by decide +kernel
theorem qd_M_inherit_57 : decode qb_M_inherit 57 = .ok (.if_icmp .ge 37, 3) := by decide +kernel
theorem qd_M_inherit_60 : decode qb_M_inherit 60 = .ok (.aload_n 0, 1) := by decide +kernel
theorem qd_M_inherit_61 : decode qb_M_inherit 61 = .ok (.getfield 7, 3) := by decide +kernel
theorem qd_M_inherit_64 : decode qb_M_inherit 64 = .ok (.iload_n 3, 1) := by decide +kernel
theorem qd_M_inherit_65 : decode qb_M_inherit 65 = .ok (.iaload, 1) := by decide +kernel
theorem qd_M_inherit_66 : decode qb_M_inherit 66 = .ok (.iconst 1, 1) := by decide +kernel
theorem qd_M_inherit_67 : decode qb_M_inherit 67 = .ok (.if_icmp .eq 27, 3) := by decide +kernel
theorem qd_M_inherit_70 : decode qb_M_inherit 70 = .ok (.aload_n 0, 1) := by decide +kernel
theorem qd_M_inherit_71 : decode qb_M_inherit 71 = .ok (.iload_n 2, 1) := by decide +kernel
theorem qd_M_inherit_72 : decode qb_M_inherit 72 = .ok (.iload_n 1, 1) := by decide +kernel
theorem qd_M_inherit_73 : decode qb_M_inherit 73 = .ok (.invokevirtual 246, 3) := by decide +kernel
theorem qd_M_inherit_76 : decode qb_M_inherit 76 = .ok (.ifCond .ne 18, 3) := by decide +kernel
theorem qd_M_inherit_79 : decode qb_M_inherit 79 = .ok (.aload_n 0, 1) := by decide +kernel
theorem qd_M_inherit_80 : decode qb_M_inherit 80 = .ok (.getfield 7, 3) := by decide +kernel
theorem qd_M_inherit_83 : decode qb_M_inherit 83 = .ok (.iload_n 1, 1) := by decide +kernel
theorem qd_M_inherit_84 : decode qb_M_inherit 84 = .ok (.iaload, 1) := by decide +kernel
theorem qd_M_inherit_85 : decode qb_M_inherit 85 = .ok (.iconst 2, 1) := by decide +kernel
theorem qd_M_inherit_86 : decode qb_M_inherit 86 = .ok (.if_icmp .le 11, 3) := by decide +kernel
theorem qd_M_inherit_89 : decode qb_M_inherit 89 = .ok (.iload 4, 2) := by decide +kernel
theorem qd_M_inherit_91 : decode qb_M_inherit 91 = .ok (.ifCond .ne 6, 3) := by decide +kernel
theorem qd_M_inherit_94 : decode qb_M_inherit 94 = .ok (.bipush (-2), 2) := by decide +kernel
theorem qd_M_inherit_96 : decode qb_M_inherit 96 = .ok (.ireturn, 1) := by decide +kernel
theorem qd_M_inherit_97 : decode qb_M_inherit 97 = .ok (.iload 4, 2) := by decide +kernel
theorem qd_M_inherit_99 : decode qb_M_inherit 99 = .ok (.ifCond .eq 16, 3) := by decide +kernel
theorem qd_M_inherit_102 : decode qb_M_inherit 102 = .ok (.aload_n 0, 1) := by decide +kernel
theorem qd_M_inherit_103 : decode qb_M_inherit 103 = .ok (.getfield 19, 3) := by decide +kernel
theorem qd_M_inherit_106 : decode qb_M_inherit 106 = .ok (.iload_n 1, 1) := by decide +kernel
theorem qd_M_inherit_107 : decode qb_M_inherit 107 = .ok (.iaload, 1) := by decide +kernel
theorem qd_M_inherit_108 : decode qb_M_inherit 108 = .ok (.iconst 2, 1) := by decide +kernel
theorem qd_M_inherit_109 : decode qb_M_inherit 109 = .ok (.if_icmp .ne 21, 3) := by decide +kernel
theorem qd_M_inherit_112 : decode qb_M_inherit 112 = .ok (.goto 15, 3) := by decide +kernel
theorem qd_M_inherit_115 : decode qb_M_inherit 115 = .ok (.aload_n 0, 1) := by decide +kernel
theorem qd_M_inherit_116 : decode qb_M_inherit 116 = .ok (.getfield 16, 3) := by decide +kernel
theorem qd_M_inherit_119 : decode qb_M_inherit 119 = .ok (.iconst 3, 1) := by decide +kernel
theorem qd_M_inherit_120 : decode qb_M_inherit 120 = .ok (.iload_n 1, 1) := by decide +kernel
theorem qd_M_inherit_121 : decode qb_M_inherit 121 = .ok (.imul, 1) := by decide +kernel
theorem qd_M_inherit_122 : decode qb_M_inherit 122 = .ok (.iaload, 1) := by decide +kernel
theorem qd_M_inherit_123 : decode qb_M_inherit 123 = .ok (.iconst (-1), 1) := by decide +kernel
theorem qd_M_inherit_124 : decode qb_M_inherit 124 = .ok (.if_icmp .eq 6, 3) := by decide +kernel
theorem qd_M_inherit_127 : decode qb_M_inherit 127 = .ok (.bipush (-3), 2) := by decide +kernel
theorem qd_M_inherit_129 : decode qb_M_inherit 129 = .ok (.ireturn, 1) := by decide +kernel
theorem qd_M_inherit_130 : decode qb_M_inherit 130 = .ok (.iload 4, 2) := by decide +kernel
theorem qd_M_inherit_132 : decode qb_M_inherit 132 = .ok (.ifCond .eq 32, 3) := by decide +kernel
theorem qd_M_inherit_135 : decode qb_M_inherit 135 = .ok (.aload_n 0, 1) := by decide +kernel
theorem qd_M_inherit_136 : decode qb_M_inherit 136 = .ok (.getfield 19, 3) := by decide +kernel
theorem qd_M_inherit_139 : decode qb_M_inherit 139 = .ok (.iload_n 1, 1) := by decide +kernel
theorem qd_M_inherit_140 : decode qb_M_inherit 140 = .ok (.dup2, 1) := by decide +kernel
theorem qd_M_inherit_141 : decode qb_M_inherit 141 = .ok (.iaload, 1) := by decide +kernel
theorem qd_M_inherit_142 : decode qb_M_inherit 142 = .ok (.iconst 1, 1) := by decide +kernel
theorem qd_M_inherit_143 : decode qb_M_inherit 143 = .ok (.iadd, 1) := by decide +kernel
theorem qd_M_inherit_144 : decode qb_M_inherit 144 = .ok (.iastore, 1) := by decide +kernel
theorem qd_M_inherit_145 : decode qb_M_inherit 145 = .ok (.aload_n 0, 1) := by decide +kernel
theorem qd_M_inherit_146 : decode qb_M_inherit 146 = .ok (.getfield 16, 3) := by decide +kernel
theorem qd_M_inherit_149 : decode qb_M_inherit 149 = .ok (.iconst 3, 1) := by decide +kernel
theorem qd_M_inherit_150 : decode qb_M_inherit 150 = .ok (.iload_n 1, 1) := by decide +kernel
theorem qd_M_inherit_151 : decode qb_M_inherit 151 = .ok (.imul, 1) := by decide +kernel
theorem qd_M_inherit_152 : decode qb_M_inherit 152 = .ok (.aload_n 0, 1) := by decide +kernel
theorem qd_M_inherit_153 : decode qb_M_inherit 153 = .ok (.getfield 19, 3) := by decide +kernel
theorem qd_M_inherit_156 : decode qb_M_inherit 156 = .ok (.iload_n 1, 1) := by decide +kernel
theorem qd_M_inherit_157 : decode qb_M_inherit 157 = .ok (.iaload, 1) := by decide +kernel
theorem qd_M_inherit_158 : decode qb_M_inherit 158 = .ok (.iadd, 1) := by decide +kernel
theorem qd_M_inherit_159 : decode qb_M_inherit 159 = .ok (.iload_n 2, 1) := by decide +kernel
theorem qd_M_inherit_160 : decode qb_M_inherit 160 = .ok (.iastore, 1) := by decide +kernel
theorem qd_M_inherit_161 : decode qb_M_inherit 161 = .ok (.goto 12, 3) := by decide +kernel
theorem qd_M_inherit_164 : decode qb_M_inherit 164 = .ok (.aload_n 0, 1) := by decide +kernel
theorem qd_M_inherit_165 : decode qb_M_inherit 165 = .ok (.getfield 16, 3) := by decide +kernel
theorem qd_M_inherit_168 : decode qb_M_inherit 168 = .ok (.iconst 3, 1) := by decide +kernel
theorem qd_M_inherit_169 : decode qb_M_inherit 169 = .ok (.iload_n 1, 1) := by decide +kernel
theorem qd_M_inherit_170 : decode qb_M_inherit 170 = .ok (.imul, 1) := by decide +kernel
theorem qd_M_inherit_171 : decode qb_M_inherit 171 = .ok (.iload_n 2, 1) := by decide +kernel
theorem qd_M_inherit_172 : decode qb_M_inherit 172 = .ok (.iastore, 1) := by decide +kernel
theorem qd_M_inherit_173 : decode qb_M_inherit 173 = .ok (.aload_n 0, 1) := by decide +kernel
theorem qd_M_inherit_174 : decode qb_M_inherit 174 = .ok (.invokevirtual 249, 3) := by decide +kernel
theorem qd_M_inherit_177 : decode qb_M_inherit 177 = .ok (.ifCond .ne 33, 3) := by decide +kernel
theorem qd_M_inherit_180 : decode qb_M_inherit 180 = .ok (.iload 4, 2) := by decide +kernel
theorem qd_M_inherit_182 : decode qb_M_inherit 182 = .ok (.ifCond .eq 16, 3) := by decide +kernel
theorem qd_M_inherit_185 : decode qb_M_inherit 185 = .ok (.aload_n 0, 1) := by decide +kernel
theorem qd_M_inherit_186 : decode qb_M_inherit 186 = .ok (.getfield 19, 3) := by decide +kernel
theorem qd_M_inherit_189 : decode qb_M_inherit 189 = .ok (.iload_n 1, 1) := by decide +kernel
theorem qd_M_inherit_190 : decode qb_M_inherit 190 = .ok (.dup2, 1) := by decide +kernel
theorem qd_M_inherit_191 : decode qb_M_inherit 191 = .ok (.iaload, 1) := by decide +kernel
theorem qd_M_inherit_192 : decode qb_M_inherit 192 = .ok (.iconst 1, 1) := by decide +kernel
theorem qd_M_inherit_193 : decode qb_M_inherit 193 = .ok (.isub, 1) := by decide +kernel
theorem qd_M_inherit_194 : decode qb_M_inherit 194 = .ok (.iastore, 1) := by decide +kernel
theorem qd_M_inherit_195 : decode qb_M_inherit 195 = .ok (.goto 12, 3) := by decide +kernel
theorem qd_M_inherit_198 : decode qb_M_inherit 198 = .ok (.aload_n 0, 1) := by decide +kernel
theorem qd_M_inherit_199 : decode qb_M_inherit 199 = .ok (.getfield 16, 3) := by decide +kernel
theorem qd_M_inherit_202 : decode qb_M_inherit 202 = .ok (.iconst 3, 1) := by decide +kernel
theorem qd_M_inherit_203 : decode qb_M_inherit 203 = .ok (.iload_n 1, 1) := by decide +kernel
theorem qd_M_inherit_204 : decode qb_M_inherit 204 = .ok (.imul, 1) := by decide +kernel
theorem qd_M_inherit_205 : decode qb_M_inherit 205 = .ok (.iconst (-1), 1) := by decide +kernel
theorem qd_M_inherit_206 : decode qb_M_inherit 206 = .ok (.iastore, 1) := by decide +kernel
theorem qd_M_inherit_207 : decode qb_M_inherit 207 = .ok (.bipush (-5), 2) := by decide +kernel
theorem qd_M_inherit_209 : decode qb_M_inherit 209 = .ok (.ireturn, 1) := by decide +kernel
theorem qd_M_inherit_210 : decode qb_M_inherit 210 = .ok (.aload_n 0, 1) := by decide +kernel
theorem qd_M_inherit_211 : decode qb_M_inherit 211 = .ok (.getfield 19, 3) := by decide +kernel
theorem qd_M_inherit_214 : decode qb_M_inherit 214 = .ok (.iload_n 1, 1) := by decide +kernel
theorem qd_M_inherit_215 : decode qb_M_inherit 215 = .ok (.iaload, 1) := by decide +kernel
theorem qd_M_inherit_216 : decode qb_M_inherit 216 = .ok (.aload_n 0, 1) := by decide +kernel
theorem qd_M_inherit_217 : decode qb_M_inherit 217 = .ok (.getfield 16, 3) := by decide +kernel
theorem qd_M_inherit_220 : decode qb_M_inherit 220 = .ok (.iconst 3, 1) := by decide +kernel
theorem qd_M_inherit_221 : decode qb_M_inherit 221 = .ok (.iload_n 1, 1) := by decide +kernel
theorem qd_M_inherit_222 : decode qb_M_inherit 222 = .ok (.imul, 1) := by decide +kernel
theorem qd_M_inherit_223 : decode qb_M_inherit 223 = .ok (.iaload, 1) := by decide +kernel
theorem qd_M_inherit_224 : decode qb_M_inherit 224 = .ok (.iconst (-1), 1) := by decide +kernel
theorem qd_M_inherit_225 : decode qb_M_inherit 225 = .ok (.if_icmp .eq 7, 3) := by decide +kernel
theorem qd_M_inherit_228 : decode qb_M_inherit 228 = .ok (.iconst 1, 1) := by decide +kernel
theorem qd_M_inherit_229 : decode qb_M_inherit 229 = .ok (.goto 4, 3) := by decide +kernel
theorem qd_M_inherit_232 : decode qb_M_inherit 232 = .ok (.iconst 0, 1) := by decide +kernel
theorem qd_M_inherit_233 : decode qb_M_inherit 233 = .ok (.iadd, 1) := by decide +kernel
theorem qd_M_inherit_234 : decode qb_M_inherit 234 = .ok (.ireturn, 1) := by decide +kernel
theorem qd_M_isForeign_0 : decode qb_M_isForeign 0 = .ok (.iconst 0, 1) := by decide +kernel
theorem qd_M_isForeign_1 : decode qb_M_isForeign 1 = .ok (.istore_n 3, 1) := by decide +kernel
theorem qd_M_isForeign_2 : decode qb_M_isForeign 2 = .ok (.iload_n 3, 1) := by decide +kernel
theorem qd_M_isForeign_3 : decode qb_M_isForeign 3 = .ok (.iload_n 1, 1) := by decide +kernel
theorem qd_M_isForeign_4 : decode qb_M_isForeign 4 = .ok (.if_icmp .gt 25, 3) := by decide +kernel
theorem qd_M_isForeign_7 : decode qb_M_isForeign 7 = .ok (.aload_n 0, 1) := by decide +kernel
theorem qd_M_isForeign_8 : decode qb_M_isForeign 8 = .ok (.getfield 62, 3) := by decide +kernel
theorem qd_M_isForeign_11 : decode qb_M_isForeign 11 = .ok (.iload_n 3, 1) := by decide +kernel
theorem qd_M_isForeign_12 : decode qb_M_isForeign 12 = .ok (.iload_n 3, 1) := by decide +kernel
theorem qd_M_isForeign_13 : decode qb_M_isForeign 13 = .ok (.iload_n 1, 1) := by decide +kernel
theorem qd_M_isForeign_14 : decode qb_M_isForeign 14 = .ok (.if_icmp .ne 7, 3) := by decide +kernel
theorem qd_M_isForeign_17 : decode qb_M_isForeign 17 = .ok (.iconst 1, 1) := by decide +kernel
theorem qd_M_isForeign_18 : decode qb_M_isForeign 18 = .ok (.goto 4, 3) := by decide +kernel
theorem qd_M_isForeign_21 : decode qb_M_isForeign 21 = .ok (.iconst 0, 1) := by decide +kernel
theorem qd_M_isForeign_22 : decode qb_M_isForeign 22 = .ok (.bastore, 1) := by decide +kernel
theorem qd_M_isForeign_23 : decode qb_M_isForeign 23 = .ok (.iinc 3 1, 3) := by decide +kernel
theorem qd_M_isForeign_26 : decode qb_M_isForeign 26 = .ok (.goto (-24), 3) := by decide +kernel
theorem qd_M_isForeign_29 : decode qb_M_isForeign 29 = .ok (.iconst 0, 1) := by decide +kernel
theorem qd_M_isForeign_30 : decode qb_M_isForeign 30 = .ok (.istore_n 3, 1) := by decide +kernel
theorem qd_M_isForeign_31 : decode qb_M_isForeign 31 = .ok (.iload_n 1, 1) := by decide +kernel
theorem qd_M_isForeign_32 : decode qb_M_isForeign 32 = .ok (.istore 4, 2) := by decide +kernel
theorem qd_M_isForeign_34 : decode qb_M_isForeign 34 = .ok (.iload 4, 2) := by decide +kernel
theorem qd_M_isForeign_36 : decode qb_M_isForeign 36 = .ok (.ifCond .lt 119, 3) := by decide +kernel
theorem qd_M_isForeign_39 : decode qb_M_isForeign 39 = .ok (.aload_n 0, 1) := by decide +kernel
theorem qd_M_isForeign_40 : decode qb_M_isForeign 40 = .ok (.getfield 62, 3) := by decide +kernel
theorem qd_M_isForeign_43 : decode qb_M_isForeign 43 = .ok (.iload 4, 2) := by decide +kernel
theorem qd_M_isForeign_45 : decode qb_M_isForeign 45 = .ok (.baload, 1) := by decide +kernel
theorem qd_M_isForeign_46 : decode qb_M_isForeign 46 = .ok (.ifCond .eq 103, 3) := by decide +kernel
theorem qd_M_isForeign_49 : decode qb_M_isForeign 49 = .ok (.iload_n 3, 1) := by decide +kernel
theorem qd_M_isForeign_50 : decode qb_M_isForeign 50 = .ok (.ifCond .ne 36, 3) := by decide +kernel
theorem qd_M_isForeign_53 : decode qb_M_isForeign 53 = .ok (.aload_n 0, 1) := by decide +kernel
theorem qd_M_isForeign_54 : decode qb_M_isForeign 54 = .ok (.getfield 28, 3) := by decide +kernel
theorem qd_M_isForeign_57 : decode qb_M_isForeign 57 = .ok (.iload 4, 2) := by decide +kernel
theorem qd_M_isForeign_59 : decode qb_M_isForeign 59 = .ok (.iaload, 1) := by decide +kernel
theorem qd_M_isForeign_60 : decode qb_M_isForeign 60 = .ok (.iconst 5, 1) := by decide +kernel
theorem qd_M_isForeign_61 : decode qb_M_isForeign 61 = .ok (.if_icmp .eq 25, 3) := by decide +kernel
theorem qd_M_isForeign_64 : decode qb_M_isForeign 64 = .ok (.aload_n 0, 1) := by decide +kernel
theorem qd_M_isForeign_65 : decode qb_M_isForeign 65 = .ok (.getfield 28, 3) := by decide +kernel
theorem qd_M_isForeign_68 : decode qb_M_isForeign 68 = .ok (.iload 4, 2) := by decide +kernel
theorem qd_M_isForeign_70 : decode qb_M_isForeign 70 = .ok (.iaload, 1) := by decide +kernel
theorem qd_M_isForeign_71 : decode qb_M_isForeign 71 = .ok (.iconst 3, 1) := by decide +kernel
theorem qd_M_isForeign_72 : decode qb_M_isForeign 72 = .ok (.if_icmp .ne 18, 3) := by decide +kernel
theorem qd_M_isForeign_75 : decode qb_M_isForeign 75 = .ok (.aload_n 0, 1) := by decide +kernel
theorem qd_M_isForeign_76 : decode qb_M_isForeign 76 = .ok (.getfield 31, 3) := by decide +kernel
theorem qd_M_isForeign_79 : decode qb_M_isForeign 79 = .ok (.iload 4, 2) := by decide +kernel
theorem qd_M_isForeign_81 : decode qb_M_isForeign 81 = .ok (.iaload, 1) := by decide +kernel
theorem qd_M_isForeign_82 : decode qb_M_isForeign 82 = .ok (.iload_n 2, 1) := by decide +kernel
theorem qd_M_isForeign_83 : decode qb_M_isForeign 83 = .ok (.if_icmp .eq 7, 3) := by decide +kernel
theorem qd_M_isForeign_86 : decode qb_M_isForeign 86 = .ok (.iconst 1, 1) := by decide +kernel
theorem qd_M_isForeign_87 : decode qb_M_isForeign 87 = .ok (.goto 4, 3) := by decide +kernel
theorem qd_M_isForeign_90 : decode qb_M_isForeign 90 = .ok (.iconst 0, 1) := by decide +kernel
theorem qd_M_isForeign_91 : decode qb_M_isForeign 91 = .ok (.istore_n 3, 1) := by decide +kernel
theorem qd_M_isForeign_92 : decode qb_M_isForeign 92 = .ok (.aload_n 0, 1) := by decide +kernel
theorem qd_M_isForeign_93 : decode qb_M_isForeign 93 = .ok (.iload 4, 2) := by decide +kernel
theorem qd_M_isForeign_95 : decode qb_M_isForeign 95 = .ok (.invokevirtual 166, 3) := by decide +kernel
theorem qd_M_isForeign_98 : decode qb_M_isForeign 98 = .ok (.ifCond .eq 16, 3) := by decide +kernel
theorem qd_M_isForeign_101 : decode qb_M_isForeign 101 = .ok (.aload_n 0, 1) := by decide +kernel
theorem qd_M_isForeign_102 : decode qb_M_isForeign 102 = .ok (.getfield 62, 3) := by decide +kernel
theorem qd_M_isForeign_105 : decode qb_M_isForeign 105 = .ok (.aload_n 0, 1) := by decide +kernel
theorem qd_M_isForeign_106 : decode qb_M_isForeign 106 = .ok (.getfield 34, 3) := by decide +kernel
theorem qd_M_isForeign_109 : decode qb_M_isForeign 109 = .ok (.iload 4, 2) := by decide +kernel
theorem qd_M_isForeign_111 : decode qb_M_isForeign 111 = .ok (.iaload, 1) := by decide +kernel
theorem qd_M_isForeign_112 : decode qb_M_isForeign 112 = .ok (.iconst 1, 1) := by decide +kernel
theorem qd_M_isForeign_113 : decode qb_M_isForeign 113 = .ok (.bastore, 1) := by decide +kernel
theorem qd_M_isForeign_114 : decode qb_M_isForeign 114 = .ok (.aload_n 0, 1) := by decide +kernel
theorem qd_M_isForeign_115 : decode qb_M_isForeign 115 = .ok (.getfield 28, 3) := by decide +kernel
theorem qd_M_isForeign_118 : decode qb_M_isForeign 118 = .ok (.iload 4, 2) := by decide +kernel
theorem qd_M_isForeign_120 : decode qb_M_isForeign 120 = .ok (.iaload, 1) := by decide +kernel
theorem qd_M_isForeign_121 : decode qb_M_isForeign 121 = .ok (.iconst 2, 1) := by decide +kernel
theorem qd_M_isForeign_122 : decode qb_M_isForeign 122 = .ok (.if_icmp .ne 27, 3) := by decide +kernel
theorem qd_M_isForeign_125 : decode qb_M_isForeign 125 = .ok (.aload_n 0, 1) := by decide +kernel
theorem qd_M_isForeign_126 : decode qb_M_isForeign 126 = .ok (.getfield 37, 3) := by decide +kernel
theorem qd_M_isForeign_129 : decode qb_M_isForeign 129 = .ok (.iload 4, 2) := by decide +kernel
theorem qd_M_isForeign_131 : decode qb_M_isForeign 131 = .ok (.iaload, 1) := by decide +kernel
theorem qd_M_isForeign_132 : decode qb_M_isForeign 132 = .ok (.iconst (-1), 1) := by decide +kernel
theorem qd_M_isForeign_133 : decode qb_M_isForeign 133 = .ok (.if_icmp .eq 16, 3) := by decide +kernel
theorem qd_M_isForeign_136 : decode qb_M_isForeign 136 = .ok (.aload_n 0, 1) := by decide +kernel
theorem qd_M_isForeign_137 : decode qb_M_isForeign 137 = .ok (.getfield 62, 3) := by decide +kernel
theorem qd_M_isForeign_140 : decode qb_M_isForeign 140 = .ok (.aload_n 0, 1) := by decide +kernel
theorem qd_M_isForeign_141 : decode qb_M_isForeign 141 = .ok (.getfield 37, 3) := by decide +kernel
theorem qd_M_isForeign_144 : decode qb_M_isForeign 144 = .ok (.iload 4, 2) := by decide +kernel
theorem qd_M_isForeign_146 : decode qb_M_isForeign 146 = .ok (.iaload, 1) := by decide +kernel
theorem qd_M_isForeign_147 : decode qb_M_isForeign 147 = .ok (.iconst 1, 1) := by decide +kernel
theorem qd_M_isForeign_148 : decode qb_M_isForeign 148 = .ok (.bastore, 1) := by decide +kernel
theorem qd_M_isForeign_149 : decode qb_M_isForeign 149 = .ok (.iinc 4 (-1), 3) := by decide +kernel
theorem qd_M_isForeign_152 : decode qb_M_isForeign 152 = .ok (.goto (-118), 3) := by decide +kernel
theorem qd_M_isForeign_155 : decode qb_M_isForeign 155 = .ok (.iload_n 3, 1) := by decide +kernel
theorem qd_M_isForeign_156 : decode qb_M_isForeign 156 = .ok (.ireturn, 1) := by decide +kernel
theorem qd_M_areOne_0 : decode qb_M_areOne 0 = .ok (.aload_n 0, 1) := by decide +kernel
theorem qd_M_areOne_1 : decode qb_M_areOne 1 = .ok (.invokevirtual 149, 3) := by decide +kernel
theorem qd_M_areOne_4 : decode qb_M_areOne 4 = .ok (.aload_n 0, 1) := by decide +kernel
theorem qd_M_areOne_5 : decode qb_M_areOne 5 = .ok (.invokevirtual 106, 3) := by decide +kernel
theorem qd_M_areOne_8 : decode qb_M_areOne 8 = .ok (.iconst 0, 1) := by decide +kernel
theorem qd_M_areOne_9 : decode qb_M_areOne 9 = .ok (.istore_n 1, 1) := by decide +kernel
theorem qd_M_areOne_10 : decode qb_M_areOne 10 = .ok (.iload_n 1, 1) := by decide +kernel
theorem qd_M_areOne_11 : decode qb_M_areOne 11 = .ok (.aload_n 0, 1) := by decide +kernel
theorem qd_M_areOne_12 : decode qb_M_areOne 12 = .ok (.getfield 95, 3) := by decide +kernel
theorem qd_M_areOne_15 : decode qb_M_areOne 15 = .ok (.if_icmp .ge 312, 3) := by decide +kernel
theorem qd_M_areOne_18 : decode qb_M_areOne 18 = .ok (.iconst 0, 1) := by decide +kernel
theorem qd_M_areOne_19 : decode qb_M_areOne 19 = .ok (.istore_n 2, 1) := by decide +kernel
theorem qd_M_areOne_20 : decode qb_M_areOne 20 = .ok (.iload_n 2, 1) := by decide +kernel
theorem qd_M_areOne_21 : decode qb_M_areOne 21 = .ok (.aload_n 0, 1) := by decide +kernel
theorem qd_M_areOne_22 : decode qb_M_areOne 22 = .ok (.getfield 95, 3) := by decide +kernel
theorem qd_M_areOne_25 : decode qb_M_areOne 25 = .ok (.if_icmp .ge 21, 3) := by decide +kernel
theorem qd_M_areOne_28 : decode qb_M_areOne 28 = .ok (.aload_n 0, 1) := by decide +kernel
theorem qd_M_areOne_29 : decode qb_M_areOne 29 = .ok (.getfield 89, 3) := by decide +kernel
theorem qd_M_areOne_32 : decode qb_M_areOne 32 = .ok (.bipush 12, 2) := by decide +kernel
theorem qd_M_areOne_34 : decode qb_M_areOne 34 = .ok (.iload_n 1, 1) := by decide +kernel
theorem qd_M_areOne_35 : decode qb_M_areOne 35 = .ok (.imul, 1) := by decide +kernel
theorem qd_M_areOne_36 : decode qb_M_areOne 36 = .ok (.iload_n 2, 1) := by decide +kernel
theorem qd_M_areOne_37 : decode qb_M_areOne 37 = .ok (.iadd, 1) := by decide +kernel
theorem qd_M_areOne_38 : decode qb_M_areOne 38 = .ok (.iconst (-1), 1) := by decide +kernel
theorem qd_M_areOne_39 : decode qb_M_areOne 39 = .ok (.iastore, 1) := by decide +kernel
theorem qd_M_areOne_40 : decode qb_M_areOne 40 = .ok (.iinc 2 1, 3) := by decide +kernel
theorem qd_M_areOne_43 : decode qb_M_areOne 43 = .ok (.goto (-23), 3) := by decide +kernel
theorem qd_M_areOne_46 : decode qb_M_areOne 46 = .ok (.aload_n 0, 1) := by decide +kernel
theorem qd_M_areOne_47 : decode qb_M_areOne 47 = .ok (.getfield 13, 3) := by decide +kernel
theorem qd_M_areOne_50 : decode qb_M_areOne 50 = .ok (.iload_n 1, 1) := by decide +kernel
theorem qd_M_areOne_51 : decode qb_M_areOne 51 = .ok (.iaload, 1) := by decide +kernel
theorem qd_M_areOne_52 : decode qb_M_areOne 52 = .ok (.ifCond .le 14, 3) := by decide +kernel
theorem qd_M_areOne_55 : decode qb_M_areOne 55 = .ok (.aload_n 0, 1) := by decide +kernel
theorem qd_M_areOne_56 : decode qb_M_areOne 56 = .ok (.iconst 3, 1) := by decide +kernel
theorem qd_M_areOne_57 : decode qb_M_areOne 57 = .ok (.iload_n 1, 1) := by decide +kernel
theorem qd_M_areOne_58 : decode qb_M_areOne 58 = .ok (.iconst 0, 1) := by decide +kernel
theorem qd_M_areOne_59 : decode qb_M_areOne 59 = .ok (.iconst (-1), 1) := by decide +kernel
theorem qd_M_areOne_60 : decode qb_M_areOne 60 = .ok (.invokevirtual 169, 3) := by decide +kernel
theorem qd_M_areOne_63 : decode qb_M_areOne 63 = .ok (.goto 4, 3) := by decide +kernel
theorem qd_M_areOne_66 : decode qb_M_areOne 66 = .ok (.iconst (-1), 1) := by decide +kernel
theorem qd_M_areOne_67 : decode qb_M_areOne 67 = .ok (.istore_n 2, 1) := by decide +kernel
theorem qd_M_areOne_68 : decode qb_M_areOne 68 = .ok (.aload_n 0, 1) := by decide +kernel
theorem qd_M_areOne_69 : decode qb_M_areOne 69 = .ok (.getfield 13, 3) := by decide +kernel
theorem qd_M_areOne_72 : decode qb_M_areOne 72 = .ok (.iload_n 1, 1) := by decide +kernel
theorem qd_M_areOne_73 : decode qb_M_areOne 73 = .ok (.iaload, 1) := by decide +kernel
theorem qd_M_areOne_74 : decode qb_M_areOne 74 = .ok (.iconst 1, 1) := by decide +kernel
theorem qd_M_areOne_75 : decode qb_M_areOne 75 = .ok (.if_icmp .le 14, 3) := by decide +kernel
theorem qd_M_areOne_78 : decode qb_M_areOne 78 = .ok (.aload_n 0, 1) := by decide +kernel
theorem qd_M_areOne_79 : decode qb_M_areOne 79 = .ok (.iconst 3, 1) := by decide +kernel
theorem qd_M_areOne_80 : decode qb_M_areOne 80 = .ok (.iload_n 1, 1) := by decide +kernel
theorem qd_M_areOne_81 : decode qb_M_areOne 81 = .ok (.iconst 1, 1) := by decide +kernel
theorem qd_M_areOne_82 : decode qb_M_areOne 82 = .ok (.iconst (-1), 1) := by decide +kernel
theorem qd_M_areOne_83 : decode qb_M_areOne 83 = .ok (.invokevirtual 169, 3) := by decide +kernel
theorem qd_M_areOne_86 : decode qb_M_areOne 86 = .ok (.goto 4, 3) := by decide +kernel
theorem qd_M_areOne_89 : decode qb_M_areOne 89 = .ok (.iconst (-1), 1) := by decide +kernel
theorem qd_M_areOne_90 : decode qb_M_areOne 90 = .ok (.istore_n 3, 1) := by decide +kernel
theorem qd_M_areOne_91 : decode qb_M_areOne 91 = .ok (.aload_n 0, 1) := by decide +kernel
theorem qd_M_areOne_92 : decode qb_M_areOne 92 = .ok (.getfield 89, 3) := by decide +kernel
theorem qd_M_areOne_95 : decode qb_M_areOne 95 = .ok (.bipush 12, 2) := by decide +kernel
theorem qd_M_areOne_97 : decode qb_M_areOne 97 = .ok (.iload_n 1, 1) := by decide +kernel
theorem qd_M_areOne_98 : decode qb_M_areOne 98 = .ok (.imul, 1) := by decide +kernel
theorem qd_M_areOne_99 : decode qb_M_areOne 99 = .ok (.iload_n 1, 1) := by decide +kernel
theorem qd_M_areOne_100 : decode qb_M_areOne 100 = .ok (.iadd, 1) := by decide +kernel
theorem qd_M_areOne_101 : decode qb_M_areOne 101 = .ok (.aload_n 0, 1) := by decide +kernel
theorem qd_M_areOne_102 : decode qb_M_areOne 102 = .ok (.getfield 13, 3) := by decide +kernel
theorem qd_M_areOne_105 : decode qb_M_areOne 105 = .ok (.iload_n 1, 1) := by decide +kernel
theorem qd_M_areOne_106 : decode qb_M_areOne 106 = .ok (.iaload, 1) := by decide +kernel
theorem qd_M_areOne_107 : decode qb_M_areOne 107 = .ok (.ifCond .ne 11, 3) := by decide +kernel
theorem qd_M_areOne_110 : decode qb_M_areOne 110 = .ok (.aload_n 0, 1) := by decide +kernel
theorem qd_M_areOne_111 : decode qb_M_areOne 111 = .ok (.iload_n 1, 1) := by decide +kernel
theorem qd_M_areOne_112 : decode qb_M_areOne 112 = .ok (.invokevirtual 178, 3) := by decide +kernel
theorem qd_M_areOne_115 : decode qb_M_areOne 115 = .ok (.goto 11, 3) := by decide +kernel
theorem qd_M_areOne_118 : decode qb_M_areOne 118 = .ok (.aload_n 0, 1) := by decide +kernel
theorem qd_M_areOne_119 : decode qb_M_areOne 119 = .ok (.iconst 2, 1) := by decide +kernel
theorem qd_M_areOne_120 : decode qb_M_areOne 120 = .ok (.iload_n 1, 1) := by decide +kernel
theorem qd_M_areOne_121 : decode qb_M_areOne 121 = .ok (.iload_n 2, 1) := by decide +kernel
theorem qd_M_areOne_122 : decode qb_M_areOne 122 = .ok (.iload_n 3, 1) := by decide +kernel
theorem qd_M_areOne_123 : decode qb_M_areOne 123 = .ok (.invokevirtual 169, 3) := by decide +kernel
theorem qd_M_areOne_126 : decode qb_M_areOne 126 = .ok (.iastore, 1) := by decide +kernel
theorem qd_M_areOne_127 : decode qb_M_areOne 127 = .ok (.iconst 0, 1) := by decide +kernel
theorem qd_M_areOne_128 : decode qb_M_areOne 128 = .ok (.istore 4, 2) := by decide +kernel
theorem qd_M_areOne_130 : decode qb_M_areOne 130 = .ok (.iload 4, 2) := by decide +kernel
theorem qd_M_areOne_132 : decode qb_M_areOne 132 = .ok (.aload_n 0, 1) := by decide +kernel
theorem qd_M_areOne_133 : decode qb_M_areOne 133 = .ok (.iload_n 1, 1) := by decide +kernel
theorem qd_M_areOne_134 : decode qb_M_areOne 134 = .ok (.invokevirtual 141, 3) := by decide +kernel
theorem qd_M_areOne_137 : decode qb_M_areOne 137 = .ok (.if_icmp .ge 184, 3) := by decide +kernel
theorem qd_M_areOne_140 : decode qb_M_areOne 140 = .ok (.aload_n 0, 1) := by decide +kernel
theorem qd_M_areOne_141 : decode qb_M_areOne 141 = .ok (.iload_n 1, 1) := by decide +kernel
theorem qd_M_areOne_142 : decode qb_M_areOne 142 = .ok (.iload 4, 2) := by decide +kernel
theorem qd_M_areOne_144 : decode qb_M_areOne 144 = .ok (.invokevirtual 145, 3) := by decide +kernel
theorem qd_M_areOne_147 : decode qb_M_areOne 147 = .ok (.istore 5, 2) := by decide +kernel
theorem qd_M_areOne_149 : decode qb_M_areOne 149 = .ok (.iconst 1, 1) := by decide +kernel
theorem qd_M_areOne_150 : decode qb_M_areOne 150 = .ok (.istore 6, 2) := by decide +kernel
theorem qd_M_areOne_152 : decode qb_M_areOne 152 = .ok (.iload 6, 2) := by decide +kernel
theorem qd_M_areOne_154 : decode qb_M_areOne 154 = .ok (.aload_n 0, 1) := by decide +kernel
theorem qd_M_areOne_155 : decode qb_M_areOne 155 = .ok (.getfield 95, 3) := by decide +kernel
theorem qd_M_areOne_158 : decode qb_M_areOne 158 = .ok (.if_icmp .ge 157, 3) := by decide +kernel
theorem qd_M_areOne_161 : decode qb_M_areOne 161 = .ok (.iload 5, 2) := by decide +kernel
theorem qd_M_areOne_163 : decode qb_M_areOne 163 = .ok (.iconst (-1), 1) := by decide +kernel
theorem qd_M_areOne_164 : decode qb_M_areOne 164 = .ok (.if_icmp .eq 151, 3) := by decide +kernel
theorem qd_M_areOne_167 : decode qb_M_areOne 167 = .ok (.aload_n 0, 1) := by decide +kernel
theorem qd_M_areOne_168 : decode qb_M_areOne 168 = .ok (.getfield 89, 3) := by decide +kernel
theorem qd_M_areOne_171 : decode qb_M_areOne 171 = .ok (.bipush 12, 2) := by decide +kernel
theorem qd_M_areOne_173 : decode qb_M_areOne 173 = .ok (.aload_n 0, 1) := by decide +kernel
theorem qd_M_areOne_174 : decode qb_M_areOne 174 = .ok (.getfield 31, 3) := by decide +kernel
theorem qd_M_areOne_177 : decode qb_M_areOne 177 = .ok (.iload 5, 2) := by decide +kernel
theorem qd_M_areOne_179 : decode qb_M_areOne 179 = .ok (.iaload, 1) := by decide +kernel
theorem qd_M_areOne_180 : decode qb_M_areOne 180 = .ok (.imul, 1) := by decide +kernel
theorem qd_M_areOne_181 : decode qb_M_areOne 181 = .ok (.iload 6, 2) := by decide +kernel
theorem qd_M_areOne_183 : decode qb_M_areOne 183 = .ok (.iadd, 1) := by decide +kernel
theorem qd_M_areOne_184 : decode qb_M_areOne 184 = .ok (.iaload, 1) := by decide +kernel
theorem qd_M_areOne_185 : decode qb_M_areOne 185 = .ok (.istore 7, 2) := by decide +kernel
theorem qd_M_areOne_187 : decode qb_M_areOne 187 = .ok (.iload 7, 2) := by decide +kernel
theorem qd_M_areOne_189 : decode qb_M_areOne 189 = .ok (.iconst (-1), 1) := by decide +kernel
theorem qd_M_areOne_190 : decode qb_M_areOne 190 = .ok (.if_icmp .eq 119, 3) := by decide +kernel
theorem qd_M_areOne_193 : decode qb_M_areOne 193 = .ok (.aload_n 0, 1) := by decide +kernel
theorem qd_M_areOne_194 : decode qb_M_areOne 194 = .ok (.getfield 28, 3) := by decide +kernel
theorem qd_M_areOne_197 : decode qb_M_areOne 197 = .ok (.iload 5, 2) := by decide +kernel
theorem qd_M_areOne_199 : decode qb_M_areOne 199 = .ok (.iaload, 1) := by decide +kernel
theorem qd_M_areOne_200 : decode qb_M_areOne 200 = .ok (.iconst 1, 1) := by decide +kernel
theorem qd_M_areOne_201 : decode qb_M_areOne 201 = .ok (.if_icmp .ne 14, 3) := by decide +kernel
theorem qd_M_areOne_204 : decode qb_M_areOne 204 = .ok (.aload_n 0, 1) := by decide +kernel
theorem qd_M_areOne_205 : decode qb_M_areOne 205 = .ok (.iload 5, 2) := by decide +kernel
theorem qd_M_areOne_207 : decode qb_M_areOne 207 = .ok (.iload 6, 2) := by decide +kernel
theorem qd_M_areOne_209 : decode qb_M_areOne 209 = .ok (.invokevirtual 222, 3) := by decide +kernel
theorem qd_M_areOne_212 : decode qb_M_areOne 212 = .ok (.goto 46, 3) := by decide +kernel
theorem qd_M_areOne_215 : decode qb_M_areOne 215 = .ok (.aload_n 0, 1) := by decide +kernel
theorem qd_M_areOne_216 : decode qb_M_areOne 216 = .ok (.getfield 28, 3) := by decide +kernel
theorem qd_M_areOne_219 : decode qb_M_areOne 219 = .ok (.iload 5, 2) := by decide +kernel
theorem qd_M_areOne_221 : decode qb_M_areOne 221 = .ok (.iaload, 1) := by decide +kernel
theorem qd_M_areOne_222 : decode qb_M_areOne 222 = .ok (.iconst 2, 1) := by decide +kernel
theorem qd_M_areOne_223 : decode qb_M_areOne 223 = .ok (.if_icmp .ne 33, 3) := by decide +kernel
theorem qd_M_areOne_226 : decode qb_M_areOne 226 = .ok (.aload_n 0, 1) := by decide +kernel
theorem qd_M_areOne_227 : decode qb_M_areOne 227 = .ok (.iload 7, 2) := by decide +kernel
theorem qd_M_areOne_229 : decode qb_M_areOne 229 = .ok (.aload_n 0, 1) := by decide +kernel
theorem qd_M_areOne_230 : decode qb_M_areOne 230 = .ok (.getfield 31, 3) := by decide +kernel
theorem qd_M_areOne_233 : decode qb_M_areOne 233 = .ok (.iload 5, 2) := by decide +kernel
theorem qd_M_areOne_235 : decode qb_M_areOne 235 = .ok (.iaload, 1) := by decide +kernel
theorem qd_M_areOne_236 : decode qb_M_areOne 236 = .ok (.aload_n 0, 1) := by decide +kernel
theorem qd_M_areOne_237 : decode qb_M_areOne 237 = .ok (.getfield 34, 3) := by decide +kernel
theorem qd_M_areOne_240 : decode qb_M_areOne 240 = .ok (.iload 5, 2) := by decide +kernel
theorem qd_M_areOne_242 : decode qb_M_areOne 242 = .ok (.iaload, 1) := by decide +kernel
theorem qd_M_areOne_243 : decode qb_M_areOne 243 = .ok (.aload_n 0, 1) := by decide +kernel
theorem qd_M_areOne_244 : decode qb_M_areOne 244 = .ok (.getfield 37, 3) := by decide +kernel
theorem qd_M_areOne_247 : decode qb_M_areOne 247 = .ok (.iload 5, 2) := by decide +kernel
theorem qd_M_areOne_249 : decode qb_M_areOne 249 = .ok (.iaload, 1) := by decide +kernel
theorem qd_M_areOne_250 : decode qb_M_areOne 250 = .ok (.invokevirtual 175, 3) := by decide +kernel
theorem qd_M_areOne_253 : decode qb_M_areOne 253 = .ok (.goto 5, 3) := by decide +kernel
theorem qd_M_areOne_256 : decode qb_M_areOne 256 = .ok (.iload 7, 2) := by decide +kernel
theorem qd_M_areOne_258 : decode qb_M_areOne 258 = .ok (.istore 7, 2) := by decide +kernel
theorem qd_M_areOne_260 : decode qb_M_areOne 260 = .ok (.aload_n 0, 1) := by decide +kernel
theorem qd_M_areOne_261 : decode qb_M_areOne 261 = .ok (.getfield 89, 3) := by decide +kernel
theorem qd_M_areOne_264 : decode qb_M_areOne 264 = .ok (.bipush 12, 2) := by decide +kernel
theorem qd_M_areOne_266 : decode qb_M_areOne 266 = .ok (.iload_n 1, 1) := by decide +kernel
theorem qd_M_areOne_267 : decode qb_M_areOne 267 = .ok (.imul, 1) := by decide +kernel
theorem qd_M_areOne_268 : decode qb_M_areOne 268 = .ok (.iload 6, 2) := by decide +kernel
theorem qd_M_areOne_270 : decode qb_M_areOne 270 = .ok (.iadd, 1) := by decide +kernel
theorem qd_M_areOne_271 : decode qb_M_areOne 271 = .ok (.iaload, 1) := by decide +kernel
theorem qd_M_areOne_272 : decode qb_M_areOne 272 = .ok (.iconst (-1), 1) := by decide +kernel
theorem qd_M_areOne_273 : decode qb_M_areOne 273 = .ok (.if_icmp .eq 22, 3) := by decide +kernel
theorem qd_M_areOne_276 : decode qb_M_areOne 276 = .ok (.aload_n 0, 1) := by decide +kernel
theorem qd_M_areOne_277 : decode qb_M_areOne 277 = .ok (.getfield 89, 3) := by decide +kernel
theorem qd_M_areOne_280 : decode qb_M_areOne 280 = .ok (.bipush 12, 2) := by decide +kernel
theorem qd_M_areOne_282 : decode qb_M_areOne 282 = .ok (.iload_n 1, 1) := by decide +kernel
theorem qd_M_areOne_283 : decode qb_M_areOne 283 = .ok (.imul, 1) := by decide +kernel
theorem qd_M_areOne_284 : decode qb_M_areOne 284 = .ok (.iload 6, 2) := by decide +kernel
theorem qd_M_areOne_286 : decode qb_M_areOne 286 = .ok (.iadd, 1) := by decide +kernel
theorem qd_M_areOne_287 : decode qb_M_areOne 287 = .ok (.iaload, 1) := by decide +kernel
theorem qd_M_areOne_288 : decode qb_M_areOne 288 = .ok (.iload 7, 2) := by decide +kernel
theorem qd_M_areOne_290 : decode qb_M_areOne 290 = .ok (.if_icmp .eq 5, 3) := by decide +kernel
theorem qd_M_areOne_293 : decode qb_M_areOne 293 = .ok (.iconst 0, 1) := by decide +kernel
theorem qd_M_areOne_294 : decode qb_M_areOne 294 = .ok (.ireturn, 1) := by decide +kernel
theorem qd_M_areOne_295 : decode qb_M_areOne 295 = .ok (.aload_n 0, 1) := by decide +kernel
theorem qd_M_areOne_296 : decode qb_M_areOne 296 = .ok (.getfield 89, 3) := by decide +kernel
theorem qd_M_areOne_299 : decode qb_M_areOne 299 = .ok (.bipush 12, 2) := by decide +kernel
theorem qd_M_areOne_301 : decode qb_M_areOne 301 = .ok (.iload_n 1, 1) := by decide +kernel
theorem qd_M_areOne_302 : decode qb_M_areOne 302 = .ok (.imul, 1) := by decide +kernel
theorem qd_M_areOne_303 : decode qb_M_areOne 303 = .ok (.iload 6, 2) := by decide +kernel
theorem qd_M_areOne_305 : decode qb_M_areOne 305 = .ok (.iadd, 1) := by decide +kernel
theorem qd_M_areOne_306 : decode qb_M_areOne 306 = .ok (.iload 7, 2) := by decide +kernel
theorem qd_M_areOne_308 : decode qb_M_areOne 308 = .ok (.iastore, 1) := by decide +kernel
theorem qd_M_areOne_309 : decode qb_M_areOne 309 = .ok (.iinc 6 1, 3) := by decide +kernel
theorem qd_M_areOne_312 : decode qb_M_areOne 312 = .ok (.goto (-160), 3) := by decide +kernel
theorem qd_M_areOne_315 : decode qb_M_areOne 315 = .ok (.iinc 4 1, 3) := by decide +kernel
theorem qd_M_areOne_318 : decode qb_M_areOne 318 = .ok (.goto (-188), 3) := by decide +kernel
theorem qd_M_areOne_321 : decode qb_M_areOne 321 = .ok (.iinc 1 1, 3) := by decide +kernel
theorem qd_M_areOne_324 : decode qb_M_areOne 324 = .ok (.goto (-314), 3) := by decide +kernel
theorem qd_M_areOne_327 : decode qb_M_areOne 327 = .ok (.iconst 1, 1) := by decide +kernel
theorem qd_M_areOne_328 : decode qb_M_areOne 328 = .ok (.ireturn, 1) := by decide +kernel
theorem qd_M_bind_0 : decode qb_M_bind 0 = .ok (.aload_n 0, 1) := by decide +kernel
theorem qd_M_bind_1 : decode qb_M_bind 1 = .ok (.iload_n 1, 1) := by decide +kernel
theorem qd_M_bind_2 : decode qb_M_bind 2 = .ok (.invokevirtual 127, 3) := by decide +kernel
theorem qd_M_bind_5 : decode qb_M_bind 5 = .ok (.ifCond .eq 50, 3) := by decide +kernel
theorem qd_M_bind_8 : decode qb_M_bind 8 = .ok (.iload_n 2, 1) := by decide +kernel
theorem qd_M_bind_9 : decode qb_M_bind 9 = .ok (.iconst 0, 1) := by decide +kernel
theorem qd_M_bind_10 : decode qb_M_bind 10 = .ok (.aload_n 0, 1) := by decide +kernel
theorem qd_M_bind_11 : decode qb_M_bind 11 = .ok (.getfield 13, 3) := by decide +kernel
theorem qd_M_bind_14 : decode qb_M_bind 14 = .ok (.iload_n 1, 1) := by decide +kernel
theorem qd_M_bind_15 : decode qb_M_bind 15 = .ok (.iaload, 1) := by decide +kernel
theorem qd_M_bind_16 : decode qb_M_bind 16 = .ok (.iconst 1, 1) := by decide +kernel
theorem qd_M_bind_17 : decode qb_M_bind 17 = .ok (.isub, 1) := by decide +kernel
theorem qd_M_bind_18 : decode qb_M_bind 18 = .ok (.invokestatic 123, 3) := by decide +kernel
theorem qd_M_bind_21 : decode qb_M_bind 21 = .ok (.ifCond .eq 34, 3) := by decide +kernel
theorem qd_M_bind_24 : decode qb_M_bind 24 = .ok (.aload_n 0, 1) := by decide +kernel
theorem qd_M_bind_25 : decode qb_M_bind 25 = .ok (.iload_n 3, 1) := by decide +kernel
theorem qd_M_bind_26 : decode qb_M_bind 26 = .ok (.invokevirtual 135, 3) := by decide +kernel
theorem qd_M_bind_29 : decode qb_M_bind 29 = .ok (.ifCond .eq 26, 3) := by decide +kernel
theorem qd_M_bind_32 : decode qb_M_bind 32 = .ok (.iload_n 3, 1) := by decide +kernel
theorem qd_M_bind_33 : decode qb_M_bind 33 = .ok (.ifCond .eq 22, 3) := by decide +kernel
theorem qd_M_bind_36 : decode qb_M_bind 36 = .ok (.aload_n 0, 1) := by decide +kernel
theorem qd_M_bind_37 : decode qb_M_bind 37 = .ok (.getfield 28, 3) := by decide +kernel
theorem qd_M_bind_40 : decode qb_M_bind 40 = .ok (.iload_n 3, 1) := by decide +kernel
theorem qd_M_bind_41 : decode qb_M_bind 41 = .ok (.iaload, 1) := by decide +kernel
theorem qd_M_bind_42 : decode qb_M_bind 42 = .ok (.iconst 3, 1) := by decide +kernel
theorem qd_M_bind_43 : decode qb_M_bind 43 = .ok (.if_icmp .gt 12, 3) := by decide +kernel
theorem qd_M_bind_46 : decode qb_M_bind 46 = .ok (.aload_n 0, 1) := by decide +kernel
theorem qd_M_bind_47 : decode qb_M_bind 47 = .ok (.iload_n 3, 1) := by decide +kernel
theorem qd_M_bind_48 : decode qb_M_bind 48 = .ok (.iload_n 1, 1) := by decide +kernel
theorem qd_M_bind_49 : decode qb_M_bind 49 = .ok (.invokevirtual 246, 3) := by decide +kernel
theorem qd_M_bind_52 : decode qb_M_bind 52 = .ok (.ifCond .eq 6, 3) := by decide +kernel
theorem qd_M_bind_55 : decode qb_M_bind 55 = .ok (.bipush (-2), 2) := by decide +kernel
theorem qd_M_bind_57 : decode qb_M_bind 57 = .ok (.ireturn, 1) := by decide +kernel
theorem qd_M_bind_58 : decode qb_M_bind 58 = .ok (.iconst 2, 1) := by decide +kernel
theorem qd_M_bind_59 : decode qb_M_bind 59 = .ok (.iload_n 1, 1) := by decide +kernel
theorem qd_M_bind_60 : decode qb_M_bind 60 = .ok (.imul, 1) := by decide +kernel
theorem qd_M_bind_61 : decode qb_M_bind 61 = .ok (.iload_n 2, 1) := by decide +kernel
theorem qd_M_bind_62 : decode qb_M_bind 62 = .ok (.iadd, 1) := by decide +kernel
theorem qd_M_bind_63 : decode qb_M_bind 63 = .ok (.istore 4, 2) := by decide +kernel
theorem qd_M_bind_65 : decode qb_M_bind 65 = .ok (.aload_n 0, 1) := by decide +kernel
theorem qd_M_bind_66 : decode qb_M_bind 66 = .ok (.getfield 28, 3) := by decide +kernel
theorem qd_M_bind_69 : decode qb_M_bind 69 = .ok (.iload_n 3, 1) := by decide +kernel
theorem qd_M_bind_70 : decode qb_M_bind 70 = .ok (.iaload, 1) := by decide +kernel
theorem qd_M_bind_71 : decode qb_M_bind 71 = .ok (.iconst 3, 1) := by decide +kernel
theorem qd_M_bind_72 : decode qb_M_bind 72 = .ok (.if_icmp .ne 13, 3) := by decide +kernel
theorem qd_M_bind_75 : decode qb_M_bind 75 = .ok (.aload_n 0, 1) := by decide +kernel
theorem qd_M_bind_76 : decode qb_M_bind 76 = .ok (.getfield 34, 3) := by decide +kernel
theorem qd_M_bind_79 : decode qb_M_bind 79 = .ok (.iload_n 3, 1) := by decide +kernel
theorem qd_M_bind_80 : decode qb_M_bind 80 = .ok (.iaload, 1) := by decide +kernel
theorem qd_M_bind_81 : decode qb_M_bind 81 = .ok (.iload_n 2, 1) := by decide +kernel
theorem qd_M_bind_82 : decode qb_M_bind 82 = .ok (.if_icmp .ge 38, 3) := by decide +kernel
theorem qd_M_bind_85 : decode qb_M_bind 85 = .ok (.aload_n 0, 1) := by decide +kernel
theorem qd_M_bind_86 : decode qb_M_bind 86 = .ok (.getfield 25, 3) := by decide +kernel
theorem qd_M_bind_89 : decode qb_M_bind 89 = .ok (.iload 4, 2) := by decide +kernel
theorem qd_M_bind_91 : decode qb_M_bind 91 = .ok (.iaload, 1) := by decide +kernel
theorem qd_M_bind_92 : decode qb_M_bind 92 = .ok (.ifCond .le 31, 3) := by decide +kernel
theorem qd_M_bind_95 : decode qb_M_bind 95 = .ok (.aload_n 0, 1) := by decide +kernel
theorem qd_M_bind_96 : decode qb_M_bind 96 = .ok (.getfield 28, 3) := by decide +kernel
theorem qd_M_bind_99 : decode qb_M_bind 99 = .ok (.iload_n 3, 1) := by decide +kernel
theorem qd_M_bind_100 : decode qb_M_bind 100 = .ok (.iaload, 1) := by decide +kernel
theorem qd_M_bind_101 : decode qb_M_bind 101 = .ok (.iconst 3, 1) := by decide +kernel
theorem qd_M_bind_102 : decode qb_M_bind 102 = .ok (.if_icmp .eq 18, 3) := by decide +kernel
theorem qd_M_bind_105 : decode qb_M_bind 105 = .ok (.aload_n 0, 1) := by decide +kernel
theorem qd_M_bind_106 : decode qb_M_bind 106 = .ok (.getfield 7, 3) := by decide +kernel
theorem qd_M_bind_109 : decode qb_M_bind 109 = .ok (.aload_n 0, 1) := by decide +kernel
theorem qd_M_bind_110 : decode qb_M_bind 110 = .ok (.getfield 31, 3) := by decide +kernel
theorem qd_M_bind_113 : decode qb_M_bind 113 = .ok (.iload_n 3, 1) := by decide +kernel
theorem qd_M_bind_114 : decode qb_M_bind 114 = .ok (.iaload, 1) := by decide +kernel
theorem qd_M_bind_115 : decode qb_M_bind 115 = .ok (.iaload, 1) := by decide +kernel
theorem qd_M_bind_116 : decode qb_M_bind 116 = .ok (.iconst 3, 1) := by decide +kernel
theorem qd_M_bind_117 : decode qb_M_bind 117 = .ok (.if_icmp .ge 6, 3) := by decide +kernel
theorem qd_M_bind_120 : decode qb_M_bind 120 = .ok (.bipush (-2), 2) := by decide +kernel
theorem qd_M_bind_122 : decode qb_M_bind 122 = .ok (.ireturn, 1) := by decide +kernel
theorem qd_M_bind_123 : decode qb_M_bind 123 = .ok (.aload_n 0, 1) := by decide +kernel
theorem qd_M_bind_124 : decode qb_M_bind 124 = .ok (.getfield 25, 3) := by decide +kernel
theorem qd_M_bind_127 : decode qb_M_bind 127 = .ok (.iload 4, 2) := by decide +kernel
theorem qd_M_bind_129 : decode qb_M_bind 129 = .ok (.iaload, 1) := by decide +kernel
theorem qd_M_bind_130 : decode qb_M_bind 130 = .ok (.iconst 2, 1) := by decide +kernel
theorem qd_M_bind_131 : decode qb_M_bind 131 = .ok (.if_icmp .ne 6, 3) := by decide +kernel
theorem qd_M_bind_134 : decode qb_M_bind 134 = .ok (.bipush (-3), 2) := by decide +kernel
theorem qd_M_bind_136 : decode qb_M_bind 136 = .ok (.ireturn, 1) := by decide +kernel
theorem qd_M_bind_137 : decode qb_M_bind 137 = .ok (.aload_n 0, 1) := by decide +kernel
theorem qd_M_bind_138 : decode qb_M_bind 138 = .ok (.getfield 22, 3) := by decide +kernel
theorem qd_M_bind_141 : decode qb_M_bind 141 = .ok (.iconst 2, 1) := by decide +kernel
theorem qd_M_bind_142 : decode qb_M_bind 142 = .ok (.iload 4, 2) := by decide +kernel
theorem qd_M_bind_144 : decode qb_M_bind 144 = .ok (.imul, 1) := by decide +kernel
theorem qd_M_bind_145 : decode qb_M_bind 145 = .ok (.aload_n 0, 1) := by decide +kernel
theorem qd_M_bind_146 : decode qb_M_bind 146 = .ok (.getfield 25, 3) := by decide +kernel
theorem qd_M_bind_149 : decode qb_M_bind 149 = .ok (.iload 4, 2) := by decide +kernel
theorem qd_M_bind_151 : decode qb_M_bind 151 = .ok (.iaload, 1) := by decide +kernel
theorem qd_M_bind_152 : decode qb_M_bind 152 = .ok (.iadd, 1) := by decide +kernel
theorem qd_M_bind_153 : decode qb_M_bind 153 = .ok (.iload_n 3, 1) := by decide +kernel
theorem qd_M_bind_154 : decode qb_M_bind 154 = .ok (.iastore, 1) := by decide +kernel
theorem qd_M_bind_155 : decode qb_M_bind 155 = .ok (.aload_n 0, 1) := by decide +kernel
theorem qd_M_bind_156 : decode qb_M_bind 156 = .ok (.getfield 25, 3) := by decide +kernel
theorem qd_M_bind_159 : decode qb_M_bind 159 = .ok (.iload 4, 2) := by decide +kernel
theorem qd_M_bind_161 : decode qb_M_bind 161 = .ok (.dup2, 1) := by decide +kernel
theorem qd_M_bind_162 : decode qb_M_bind 162 = .ok (.iaload, 1) := by decide +kernel
theorem qd_M_bind_163 : decode qb_M_bind 163 = .ok (.iconst 1, 1) := by decide +kernel
theorem qd_M_bind_164 : decode qb_M_bind 164 = .ok (.iadd, 1) := by decide +kernel
theorem qd_M_bind_165 : decode qb_M_bind 165 = .ok (.iastore, 1) := by decide +kernel
theorem qd_M_bind_166 : decode qb_M_bind 166 = .ok (.aload_n 0, 1) := by decide +kernel
theorem qd_M_bind_167 : decode qb_M_bind 167 = .ok (.getfield 25, 3) := by decide +kernel
theorem qd_M_bind_170 : decode qb_M_bind 170 = .ok (.iload 4, 2) := by decide +kernel
theorem qd_M_bind_172 : decode qb_M_bind 172 = .ok (.iaload, 1) := by decide +kernel
theorem qd_M_bind_173 : decode qb_M_bind 173 = .ok (.ireturn, 1) := by decide +kernel
